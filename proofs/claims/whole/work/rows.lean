section
-- ===== PART A: goes FIRST, ahead of the names: the tables' words, and 'selects' of the private methods out of them =====
/-- a private method of a class that the tables say can be made, by its rows of tables_1 -/
def lw_okq (q : MethodName × Nat) : Prop := (q.1.cls ≠ "java/lang/invoke/MethodHandle" ∧ q.1.cls ≠ "java/lang/invoke/VarHandle") ∧ Cond.instantiable q.1.cls q.2 ∈ tables_1 ∧ Cond.privateMethod q.1 ∈ tables_1 ∧ Cond.instanceMethod q.1 ∈ tables_1
theorem lw_p0 : lw_okq (⟨"OilRound", "houseAt", "(I)LOilRound$House;"⟩, 14) := ⟨⟨by decide +kernel, by decide +kernel⟩, List.mem_of_getElem? (i := 15) (by decide +kernel), List.mem_of_getElem? (i := 256) (by decide +kernel), List.mem_of_getElem? (i := 257) (by decide +kernel)⟩
theorem lw_p1 : lw_okq (⟨"OilRound$House", "low", "(I)I"⟩, 15) := ⟨⟨by decide +kernel, by decide +kernel⟩, List.mem_of_getElem? (i := 164) (by decide +kernel), List.mem_of_getElem? (i := 272) (by decide +kernel), List.mem_of_getElem? (i := 273) (by decide +kernel)⟩
theorem lw_p2 : lw_okq (⟨"OilRound$House", "high", "(I)I"⟩, 15) := ⟨⟨by decide +kernel, by decide +kernel⟩, List.mem_of_getElem? (i := 164) (by decide +kernel), List.mem_of_getElem? (i := 279) (by decide +kernel), List.mem_of_getElem? (i := 280) (by decide +kernel)⟩
theorem lw_p3 : lw_okq (⟨"OilRound", "countDue", "()I"⟩, 14) := ⟨⟨by decide +kernel, by decide +kernel⟩, List.mem_of_getElem? (i := 15) (by decide +kernel), List.mem_of_getElem? (i := 291) (by decide +kernel), List.mem_of_getElem? (i := 292) (by decide +kernel)⟩
theorem lw_p4 : lw_okq (⟨"OilRound", "mostUrgent", "(I)I"⟩, 14) := ⟨⟨by decide +kernel, by decide +kernel⟩, List.mem_of_getElem? (i := 15) (by decide +kernel), List.mem_of_getElem? (i := 333) (by decide +kernel), List.mem_of_getElem? (i := 334) (by decide +kernel)⟩
theorem lw_p5 : lw_okq (⟨"OilRound", "isNoRound", "(I)Z"⟩, 14) := ⟨⟨by decide +kernel, by decide +kernel⟩, List.mem_of_getElem? (i := 15) (by decide +kernel), List.mem_of_getElem? (i := 350) (by decide +kernel), List.mem_of_getElem? (i := 351) (by decide +kernel)⟩
theorem lw_p6 : lw_okq (⟨"OilRound", "needOf", "(I)I"⟩, 14) := ⟨⟨by decide +kernel, by decide +kernel⟩, List.mem_of_getElem? (i := 15) (by decide +kernel), List.mem_of_getElem? (i := 354) (by decide +kernel), List.mem_of_getElem? (i := 355) (by decide +kernel)⟩
theorem lw_p7 : lw_okq (⟨"OilRound$Route", "gather", "(I[LOilRound$House;)V"⟩, 7) := ⟨⟨by decide +kernel, by decide +kernel⟩, List.mem_of_getElem? (i := 25) (by decide +kernel), List.mem_of_getElem? (i := 362) (by decide +kernel), List.mem_of_getElem? (i := 363) (by decide +kernel)⟩
theorem lw_p8 : lw_okq (⟨"OilRound$Route", "measure", "(II)V"⟩, 7) := ⟨⟨by decide +kernel, by decide +kernel⟩, List.mem_of_getElem? (i := 25) (by decide +kernel), List.mem_of_getElem? (i := 367) (by decide +kernel), List.mem_of_getElem? (i := 368) (by decide +kernel)⟩
theorem lw_p9 : lw_okq (⟨"OilRound$Route", "between", "(II)I"⟩, 7) := ⟨⟨by decide +kernel, by decide +kernel⟩, List.mem_of_getElem? (i := 25) (by decide +kernel), List.mem_of_getElem? (i := 371) (by decide +kernel), List.mem_of_getElem? (i := 372) (by decide +kernel)⟩
theorem lw_p10 : lw_okq (⟨"OilRound$Route", "wayBy", "(III)I"⟩, 7) := ⟨⟨by decide +kernel, by decide +kernel⟩, List.mem_of_getElem? (i := 25) (by decide +kernel), List.mem_of_getElem? (i := 380) (by decide +kernel), List.mem_of_getElem? (i := 381) (by decide +kernel)⟩
theorem lw_p11 : lw_okq (⟨"OilRound$Route", "leastAt", "(II)I"⟩, 7) := ⟨⟨by decide +kernel, by decide +kernel⟩, List.mem_of_getElem? (i := 25) (by decide +kernel), List.mem_of_getElem? (i := 384) (by decide +kernel), List.mem_of_getElem? (i := 385) (by decide +kernel)⟩
theorem lw_p12 : lw_okq (⟨"OilRound$Route", "arrange", "()V"⟩, 7) := ⟨⟨by decide +kernel, by decide +kernel⟩, List.mem_of_getElem? (i := 25) (by decide +kernel), List.mem_of_getElem? (i := 389) (by decide +kernel), List.mem_of_getElem? (i := 390) (by decide +kernel)⟩
theorem lw_p13 : lw_okq (⟨"OilRound$Route", "firstNext", "(II)I"⟩, 7) := ⟨⟨by decide +kernel, by decide +kernel⟩, List.mem_of_getElem? (i := 25) (by decide +kernel), List.mem_of_getElem? (i := 393) (by decide +kernel), List.mem_of_getElem? (i := 394) (by decide +kernel)⟩
theorem lw_p14 : lw_okq (⟨"OilRound$Plan", "ahead", "(I)I"⟩, 3) := ⟨⟨by decide +kernel, by decide +kernel⟩, List.mem_of_getElem? (i := 170) (by decide +kernel), List.mem_of_getElem? (i := 419) (by decide +kernel), List.mem_of_getElem? (i := 420) (by decide +kernel)⟩
theorem lw_p15 : lw_okq (⟨"OilRound$House", "noteOf", "(I)I"⟩, 15) := ⟨⟨by decide +kernel, by decide +kernel⟩, List.mem_of_getElem? (i := 164) (by decide +kernel), List.mem_of_getElem? (i := 431) (by decide +kernel), List.mem_of_getElem? (i := 432) (by decide +kernel)⟩
def lw_privs_1 : List (MethodName × Nat) := [(⟨"OilRound", "houseAt", "(I)LOilRound$House;"⟩, 14), (⟨"OilRound$House", "low", "(I)I"⟩, 15), (⟨"OilRound$House", "high", "(I)I"⟩, 15), (⟨"OilRound", "countDue", "()I"⟩, 14), (⟨"OilRound", "mostUrgent", "(I)I"⟩, 14), (⟨"OilRound", "isNoRound", "(I)Z"⟩, 14), (⟨"OilRound", "needOf", "(I)I"⟩, 14), (⟨"OilRound$Route", "gather", "(I[LOilRound$House;)V"⟩, 7), (⟨"OilRound$Route", "measure", "(II)V"⟩, 7), (⟨"OilRound$Route", "between", "(II)I"⟩, 7), (⟨"OilRound$Route", "wayBy", "(III)I"⟩, 7), (⟨"OilRound$Route", "leastAt", "(II)I"⟩, 7), (⟨"OilRound$Route", "arrange", "()V"⟩, 7), (⟨"OilRound$Route", "firstNext", "(II)I"⟩, 7), (⟨"OilRound$Plan", "ahead", "(I)I"⟩, 3), (⟨"OilRound$House", "noteOf", "(I)I"⟩, 15)]
theorem lw_r1 : ∀ q ∈ lw_privs_1, lw_okq q := List.forall_mem_cons.mpr ⟨lw_p0, List.forall_mem_cons.mpr ⟨lw_p1, List.forall_mem_cons.mpr ⟨lw_p2, List.forall_mem_cons.mpr ⟨lw_p3, List.forall_mem_cons.mpr ⟨lw_p4, List.forall_mem_cons.mpr ⟨lw_p5, List.forall_mem_cons.mpr ⟨lw_p6, List.forall_mem_cons.mpr ⟨lw_p7, List.forall_mem_cons.mpr ⟨lw_p8, List.forall_mem_cons.mpr ⟨lw_p9, List.forall_mem_cons.mpr ⟨lw_p10, List.forall_mem_cons.mpr ⟨lw_p11, List.forall_mem_cons.mpr ⟨lw_p12, List.forall_mem_cons.mpr ⟨lw_p13, List.forall_mem_cons.mpr ⟨lw_p14, List.forall_mem_cons.mpr ⟨lw_p15, fun _ h => absurd h List.not_mem_nil⟩⟩⟩⟩⟩⟩⟩⟩⟩⟩⟩⟩⟩⟩⟩⟩
theorem lw_p16 : lw_okq (⟨"OilRound$House", "narrow", "(I)V"⟩, 15) := ⟨⟨by decide +kernel, by decide +kernel⟩, List.mem_of_getElem? (i := 164) (by decide +kernel), List.mem_of_getElem? (i := 435) (by decide +kernel), List.mem_of_getElem? (i := 436) (by decide +kernel)⟩
theorem lw_p17 : lw_okq (⟨"OilRound$PlanText", "readOnce", "([LOilRound$House;Z)I"⟩, 12) := ⟨⟨by decide +kernel, by decide +kernel⟩, List.mem_of_getElem? (i := 54) (by decide +kernel), List.mem_of_getElem? (i := 469) (by decide +kernel), List.mem_of_getElem? (i := 470) (by decide +kernel)⟩
theorem lw_p18 : lw_okq (⟨"OilRound$PlanText", "readToken", "()V"⟩, 12) := ⟨⟨by decide +kernel, by decide +kernel⟩, List.mem_of_getElem? (i := 54) (by decide +kernel), List.mem_of_getElem? (i := 473) (by decide +kernel), List.mem_of_getElem? (i := 474) (by decide +kernel)⟩
theorem lw_p19 : lw_okq (⟨"OilRound$PlanText", "byteAt", "(I)I"⟩, 12) := ⟨⟨by decide +kernel, by decide +kernel⟩, List.mem_of_getElem? (i := 54) (by decide +kernel), List.mem_of_getElem? (i := 477) (by decide +kernel), List.mem_of_getElem? (i := 478) (by decide +kernel)⟩
theorem lw_p20 : lw_okq (⟨"OilRound$PlanText", "nameToken", "()I"⟩, 12) := ⟨⟨by decide +kernel, by decide +kernel⟩, List.mem_of_getElem? (i := 54) (by decide +kernel), List.mem_of_getElem? (i := 484) (by decide +kernel), List.mem_of_getElem? (i := 485) (by decide +kernel)⟩
theorem lw_p21 : lw_okq (⟨"OilRound$PlanText", "isName", "(Ljava/lang/String;)Z"⟩, 12) := ⟨⟨by decide +kernel, by decide +kernel⟩, List.mem_of_getElem? (i := 54) (by decide +kernel), List.mem_of_getElem? (i := 489) (by decide +kernel), List.mem_of_getElem? (i := 490) (by decide +kernel)⟩
theorem lw_p22 : lw_okq (⟨"OilRound$PlanText", "numberToken", "()I"⟩, 12) := ⟨⟨by decide +kernel, by decide +kernel⟩, List.mem_of_getElem? (i := 54) (by decide +kernel), List.mem_of_getElem? (i := 547) (by decide +kernel), List.mem_of_getElem? (i := 548) (by decide +kernel)⟩
theorem lw_p23 : lw_okq (⟨"OilRound$PlanText", "takeToken", "([LOilRound$House;)I"⟩, 12) := ⟨⟨by decide +kernel, by decide +kernel⟩, List.mem_of_getElem? (i := 54) (by decide +kernel), List.mem_of_getElem? (i := 551) (by decide +kernel), List.mem_of_getElem? (i := 552) (by decide +kernel)⟩
theorem lw_p24 : lw_okq (⟨"OilRound$PlanText", "canStandHere", "()Z"⟩, 12) := ⟨⟨by decide +kernel, by decide +kernel⟩, List.mem_of_getElem? (i := 54) (by decide +kernel), List.mem_of_getElem? (i := 555) (by decide +kernel), List.mem_of_getElem? (i := 556) (by decide +kernel)⟩
theorem lw_p25 : lw_okq (⟨"OilRound$PlanText", "takeWay", "()V"⟩, 12) := ⟨⟨by decide +kernel, by decide +kernel⟩, List.mem_of_getElem? (i := 54) (by decide +kernel), List.mem_of_getElem? (i := 560) (by decide +kernel), List.mem_of_getElem? (i := 561) (by decide +kernel)⟩
theorem lw_p26 : lw_okq (⟨"OilRound$House", "isLeaky", "()Z"⟩, 15) := ⟨⟨by decide +kernel, by decide +kernel⟩, List.mem_of_getElem? (i := 164) (by decide +kernel), List.mem_of_getElem? (i := 585) (by decide +kernel), List.mem_of_getElem? (i := 586) (by decide +kernel)⟩
theorem lw_p27 : lw_okq (⟨"OilRound$House", "isSteady", "()Z"⟩, 15) := ⟨⟨by decide +kernel, by decide +kernel⟩, List.mem_of_getElem? (i := 164) (by decide +kernel), List.mem_of_getElem? (i := 589) (by decide +kernel), List.mem_of_getElem? (i := 590) (by decide +kernel)⟩
theorem lw_p28 : lw_okq (⟨"OilRound$House", "isKnown", "()Z"⟩, 15) := ⟨⟨by decide +kernel, by decide +kernel⟩, List.mem_of_getElem? (i := 164) (by decide +kernel), List.mem_of_getElem? (i := 593) (by decide +kernel), List.mem_of_getElem? (i := 594) (by decide +kernel)⟩
theorem lw_p29 : lw_okq (⟨"OilRound$Asks", "leakyWeight", "(LOilRound$House;)I"⟩, 2) := ⟨⟨by decide +kernel, by decide +kernel⟩, List.mem_of_getElem? (i := 100) (by decide +kernel), List.mem_of_getElem? (i := 619) (by decide +kernel), List.mem_of_getElem? (i := 620) (by decide +kernel)⟩
theorem lw_p30 : lw_okq (⟨"OilRound$Asks", "begin", "(I)V"⟩, 2) := ⟨⟨by decide +kernel, by decide +kernel⟩, List.mem_of_getElem? (i := 100) (by decide +kernel), List.mem_of_getElem? (i := 623) (by decide +kernel), List.mem_of_getElem? (i := 624) (by decide +kernel)⟩
theorem lw_p31 : lw_okq (⟨"OilRound$Asks", "lentWeight", "(LOilRound$House;)I"⟩, 2) := ⟨⟨by decide +kernel, by decide +kernel⟩, List.mem_of_getElem? (i := 100) (by decide +kernel), List.mem_of_getElem? (i := 627) (by decide +kernel), List.mem_of_getElem? (i := 628) (by decide +kernel)⟩
def lw_privs_2 : List (MethodName × Nat) := [(⟨"OilRound$House", "narrow", "(I)V"⟩, 15), (⟨"OilRound$PlanText", "readOnce", "([LOilRound$House;Z)I"⟩, 12), (⟨"OilRound$PlanText", "readToken", "()V"⟩, 12), (⟨"OilRound$PlanText", "byteAt", "(I)I"⟩, 12), (⟨"OilRound$PlanText", "nameToken", "()I"⟩, 12), (⟨"OilRound$PlanText", "isName", "(Ljava/lang/String;)Z"⟩, 12), (⟨"OilRound$PlanText", "numberToken", "()I"⟩, 12), (⟨"OilRound$PlanText", "takeToken", "([LOilRound$House;)I"⟩, 12), (⟨"OilRound$PlanText", "canStandHere", "()Z"⟩, 12), (⟨"OilRound$PlanText", "takeWay", "()V"⟩, 12), (⟨"OilRound$House", "isLeaky", "()Z"⟩, 15), (⟨"OilRound$House", "isSteady", "()Z"⟩, 15), (⟨"OilRound$House", "isKnown", "()Z"⟩, 15), (⟨"OilRound$Asks", "leakyWeight", "(LOilRound$House;)I"⟩, 2), (⟨"OilRound$Asks", "begin", "(I)V"⟩, 2), (⟨"OilRound$Asks", "lentWeight", "(LOilRound$House;)I"⟩, 2)]
theorem lw_r2 : ∀ q ∈ lw_privs_2, lw_okq q := List.forall_mem_cons.mpr ⟨lw_p16, List.forall_mem_cons.mpr ⟨lw_p17, List.forall_mem_cons.mpr ⟨lw_p18, List.forall_mem_cons.mpr ⟨lw_p19, List.forall_mem_cons.mpr ⟨lw_p20, List.forall_mem_cons.mpr ⟨lw_p21, List.forall_mem_cons.mpr ⟨lw_p22, List.forall_mem_cons.mpr ⟨lw_p23, List.forall_mem_cons.mpr ⟨lw_p24, List.forall_mem_cons.mpr ⟨lw_p25, List.forall_mem_cons.mpr ⟨lw_p26, List.forall_mem_cons.mpr ⟨lw_p27, List.forall_mem_cons.mpr ⟨lw_p28, List.forall_mem_cons.mpr ⟨lw_p29, List.forall_mem_cons.mpr ⟨lw_p30, List.forall_mem_cons.mpr ⟨lw_p31, fun _ h => absurd h List.not_mem_nil⟩⟩⟩⟩⟩⟩⟩⟩⟩⟩⟩⟩⟩⟩⟩⟩
theorem lw_p32 : lw_okq (⟨"OilRound$Asks", "steadyWeight", "(LOilRound$House;)I"⟩, 2) := ⟨⟨by decide +kernel, by decide +kernel⟩, List.mem_of_getElem? (i := 100) (by decide +kernel), List.mem_of_getElem? (i := 631) (by decide +kernel), List.mem_of_getElem? (i := 632) (by decide +kernel)⟩
theorem lw_p33 : lw_okq (⟨"OilRound$Asks", "knownWeight", "(LOilRound$House;)I"⟩, 2) := ⟨⟨by decide +kernel, by decide +kernel⟩, List.mem_of_getElem? (i := 100) (by decide +kernel), List.mem_of_getElem? (i := 635) (by decide +kernel), List.mem_of_getElem? (i := 636) (by decide +kernel)⟩
theorem lw_p34 : lw_okq (⟨"OilRound$Asks", "leakyMark", "(LOilRound$House;)I"⟩, 2) := ⟨⟨by decide +kernel, by decide +kernel⟩, List.mem_of_getElem? (i := 100) (by decide +kernel), List.mem_of_getElem? (i := 643) (by decide +kernel), List.mem_of_getElem? (i := 644) (by decide +kernel)⟩
theorem lw_p35 : lw_okq (⟨"OilRound$Asks", "lentMark", "(LOilRound$House;)I"⟩, 2) := ⟨⟨by decide +kernel, by decide +kernel⟩, List.mem_of_getElem? (i := 100) (by decide +kernel), List.mem_of_getElem? (i := 647) (by decide +kernel), List.mem_of_getElem? (i := 648) (by decide +kernel)⟩
theorem lw_p36 : lw_okq (⟨"OilRound$Asks", "knownMark", "(LOilRound$House;)I"⟩, 2) := ⟨⟨by decide +kernel, by decide +kernel⟩, List.mem_of_getElem? (i := 100) (by decide +kernel), List.mem_of_getElem? (i := 652) (by decide +kernel), List.mem_of_getElem? (i := 653) (by decide +kernel)⟩
theorem lw_p37 : lw_okq (⟨"OilRoundModel", "isHouse", "(I)Z"⟩, 45) := ⟨⟨by decide +kernel, by decide +kernel⟩, List.mem_of_getElem? (i := 670) (by decide +kernel), List.mem_of_getElem? (i := 829) (by decide +kernel), List.mem_of_getElem? (i := 830) (by decide +kernel)⟩
theorem lw_p38 : lw_okq (⟨"OilRoundModel", "lowOf", "(II)I"⟩, 45) := ⟨⟨by decide +kernel, by decide +kernel⟩, List.mem_of_getElem? (i := 670) (by decide +kernel), List.mem_of_getElem? (i := 839) (by decide +kernel), List.mem_of_getElem? (i := 840) (by decide +kernel)⟩
theorem lw_p39 : lw_okq (⟨"OilRoundModel", "highOf", "(II)I"⟩, 45) := ⟨⟨by decide +kernel, by decide +kernel⟩, List.mem_of_getElem? (i := 670) (by decide +kernel), List.mem_of_getElem? (i := 843) (by decide +kernel), List.mem_of_getElem? (i := 844) (by decide +kernel)⟩
theorem lw_p40 : lw_okq (⟨"OilRoundModel", "due", "()I"⟩, 45) := ⟨⟨by decide +kernel, by decide +kernel⟩, List.mem_of_getElem? (i := 670) (by decide +kernel), List.mem_of_getElem? (i := 852) (by decide +kernel), List.mem_of_getElem? (i := 853) (by decide +kernel)⟩
theorem lw_p41 : lw_okq (⟨"OilRoundModel", "isDue", "(I)Z"⟩, 45) := ⟨⟨by decide +kernel, by decide +kernel⟩, List.mem_of_getElem? (i := 670) (by decide +kernel), List.mem_of_getElem? (i := 856) (by decide +kernel), List.mem_of_getElem? (i := 857) (by decide +kernel)⟩
theorem lw_p42 : lw_okq (⟨"OilRoundModel", "canGo", "(I)I"⟩, 45) := ⟨⟨by decide +kernel, by decide +kernel⟩, List.mem_of_getElem? (i := 670) (by decide +kernel), List.mem_of_getElem? (i := 883) (by decide +kernel), List.mem_of_getElem? (i := 884) (by decide +kernel)⟩
theorem lw_p43 : lw_okq (⟨"OilRoundModel", "isSet", "(I)Z"⟩, 45) := ⟨⟨by decide +kernel, by decide +kernel⟩, List.mem_of_getElem? (i := 670) (by decide +kernel), List.mem_of_getElem? (i := 891) (by decide +kernel), List.mem_of_getElem? (i := 892) (by decide +kernel)⟩
theorem lw_p44 : lw_okq (⟨"OilRoundModel", "findWays", "()V"⟩, 45) := ⟨⟨by decide +kernel, by decide +kernel⟩, List.mem_of_getElem? (i := 670) (by decide +kernel), List.mem_of_getElem? (i := 896) (by decide +kernel), List.mem_of_getElem? (i := 897) (by decide +kernel)⟩
theorem lw_p45 : lw_okq (⟨"OilRoundModel", "fromDepot", "(I)I"⟩, 45) := ⟨⟨by decide +kernel, by decide +kernel⟩, List.mem_of_getElem? (i := 670) (by decide +kernel), List.mem_of_getElem? (i := 900) (by decide +kernel), List.mem_of_getElem? (i := 901) (by decide +kernel)⟩
theorem lw_p46 : lw_okq (⟨"OilRoundModel", "between", "(II)I"⟩, 45) := ⟨⟨by decide +kernel, by decide +kernel⟩, List.mem_of_getElem? (i := 670) (by decide +kernel), List.mem_of_getElem? (i := 907) (by decide +kernel), List.mem_of_getElem? (i := 908) (by decide +kernel)⟩
theorem lw_p47 : lw_okq (⟨"OilRoundModel", "nextOf", "(II)I"⟩, 45) := ⟨⟨by decide +kernel, by decide +kernel⟩, List.mem_of_getElem? (i := 670) (by decide +kernel), List.mem_of_getElem? (i := 911) (by decide +kernel), List.mem_of_getElem? (i := 912) (by decide +kernel)⟩
def lw_privs_3 : List (MethodName × Nat) := [(⟨"OilRound$Asks", "steadyWeight", "(LOilRound$House;)I"⟩, 2), (⟨"OilRound$Asks", "knownWeight", "(LOilRound$House;)I"⟩, 2), (⟨"OilRound$Asks", "leakyMark", "(LOilRound$House;)I"⟩, 2), (⟨"OilRound$Asks", "lentMark", "(LOilRound$House;)I"⟩, 2), (⟨"OilRound$Asks", "knownMark", "(LOilRound$House;)I"⟩, 2), (⟨"OilRoundModel", "isHouse", "(I)Z"⟩, 45), (⟨"OilRoundModel", "lowOf", "(II)I"⟩, 45), (⟨"OilRoundModel", "highOf", "(II)I"⟩, 45), (⟨"OilRoundModel", "due", "()I"⟩, 45), (⟨"OilRoundModel", "isDue", "(I)Z"⟩, 45), (⟨"OilRoundModel", "canGo", "(I)I"⟩, 45), (⟨"OilRoundModel", "isSet", "(I)Z"⟩, 45), (⟨"OilRoundModel", "findWays", "()V"⟩, 45), (⟨"OilRoundModel", "fromDepot", "(I)I"⟩, 45), (⟨"OilRoundModel", "between", "(II)I"⟩, 45), (⟨"OilRoundModel", "nextOf", "(II)I"⟩, 45)]
theorem lw_r3 : ∀ q ∈ lw_privs_3, lw_okq q := List.forall_mem_cons.mpr ⟨lw_p32, List.forall_mem_cons.mpr ⟨lw_p33, List.forall_mem_cons.mpr ⟨lw_p34, List.forall_mem_cons.mpr ⟨lw_p35, List.forall_mem_cons.mpr ⟨lw_p36, List.forall_mem_cons.mpr ⟨lw_p37, List.forall_mem_cons.mpr ⟨lw_p38, List.forall_mem_cons.mpr ⟨lw_p39, List.forall_mem_cons.mpr ⟨lw_p40, List.forall_mem_cons.mpr ⟨lw_p41, List.forall_mem_cons.mpr ⟨lw_p42, List.forall_mem_cons.mpr ⟨lw_p43, List.forall_mem_cons.mpr ⟨lw_p44, List.forall_mem_cons.mpr ⟨lw_p45, List.forall_mem_cons.mpr ⟨lw_p46, List.forall_mem_cons.mpr ⟨lw_p47, fun _ h => absurd h List.not_mem_nil⟩⟩⟩⟩⟩⟩⟩⟩⟩⟩⟩⟩⟩⟩⟩⟩
theorem lw_p48 : lw_okq (⟨"OilRoundModel", "cost", "(II)I"⟩, 45) := ⟨⟨by decide +kernel, by decide +kernel⟩, List.mem_of_getElem? (i := 670) (by decide +kernel), List.mem_of_getElem? (i := 923) (by decide +kernel), List.mem_of_getElem? (i := 924) (by decide +kernel)⟩
theorem lw_p49 : lw_okq (⟨"OilRoundModel", "makeNarrower", "(II)V"⟩, 45) := ⟨⟨by decide +kernel, by decide +kernel⟩, List.mem_of_getElem? (i := 670) (by decide +kernel), List.mem_of_getElem? (i := 930) (by decide +kernel), List.mem_of_getElem? (i := 931) (by decide +kernel)⟩
theorem lw_p50 : lw_okq (⟨"OilRoundModel", "step", "()V"⟩, 45) := ⟨⟨by decide +kernel, by decide +kernel⟩, List.mem_of_getElem? (i := 670) (by decide +kernel), List.mem_of_getElem? (i := 962) (by decide +kernel), List.mem_of_getElem? (i := 963) (by decide +kernel)⟩
theorem lw_p51 : lw_okq (⟨"OilRoundModel", "byteAt", "(I)I"⟩, 45) := ⟨⟨by decide +kernel, by decide +kernel⟩, List.mem_of_getElem? (i := 670) (by decide +kernel), List.mem_of_getElem? (i := 966) (by decide +kernel), List.mem_of_getElem? (i := 967) (by decide +kernel)⟩
theorem lw_p52 : lw_okq (⟨"OilRoundModel", "readOne", "()V"⟩, 45) := ⟨⟨by decide +kernel, by decide +kernel⟩, List.mem_of_getElem? (i := 670) (by decide +kernel), List.mem_of_getElem? (i := 976) (by decide +kernel), List.mem_of_getElem? (i := 977) (by decide +kernel)⟩
theorem lw_p53 : lw_okq (⟨"OilRoundModel", "name", "()J"⟩, 45) := ⟨⟨by decide +kernel, by decide +kernel⟩, List.mem_of_getElem? (i := 670) (by decide +kernel), List.mem_of_getElem? (i := 980) (by decide +kernel), List.mem_of_getElem? (i := 981) (by decide +kernel)⟩
theorem lw_p54 : lw_okq (⟨"OilRoundModel", "take", "(Z)V"⟩, 45) := ⟨⟨by decide +kernel, by decide +kernel⟩, List.mem_of_getElem? (i := 670) (by decide +kernel), List.mem_of_getElem? (i := 985) (by decide +kernel), List.mem_of_getElem? (i := 986) (by decide +kernel)⟩
theorem lw_p55 : lw_okq (⟨"OilRoundModel", "bad", "(I)V"⟩, 45) := ⟨⟨by decide +kernel, by decide +kernel⟩, List.mem_of_getElem? (i := 670) (by decide +kernel), List.mem_of_getElem? (i := 989) (by decide +kernel), List.mem_of_getElem? (i := 990) (by decide +kernel)⟩
theorem lw_p56 : lw_okq (⟨"OilRoundModel", "number", "()I"⟩, 45) := ⟨⟨by decide +kernel, by decide +kernel⟩, List.mem_of_getElem? (i := 670) (by decide +kernel), List.mem_of_getElem? (i := 993) (by decide +kernel), List.mem_of_getElem? (i := 994) (by decide +kernel)⟩
theorem lw_p57 : lw_okq (⟨"OilRoundModel", "is", "(I)Z"⟩, 45) := ⟨⟨by decide +kernel, by decide +kernel⟩, List.mem_of_getElem? (i := 670) (by decide +kernel), List.mem_of_getElem? (i := 1000) (by decide +kernel), List.mem_of_getElem? (i := 1001) (by decide +kernel)⟩
theorem lw_p58 : lw_okq (⟨"OilRoundModel", "kindOf", "(I)I"⟩, 45) := ⟨⟨by decide +kernel, by decide +kernel⟩, List.mem_of_getElem? (i := 670) (by decide +kernel), List.mem_of_getElem? (i := 1013) (by decide +kernel), List.mem_of_getElem? (i := 1014) (by decide +kernel)⟩
theorem lw_p59 : lw_okq (⟨"OilRoundModel", "weight", "(I)I"⟩, 45) := ⟨⟨by decide +kernel, by decide +kernel⟩, List.mem_of_getElem? (i := 670) (by decide +kernel), List.mem_of_getElem? (i := 1027) (by decide +kernel), List.mem_of_getElem? (i := 1028) (by decide +kernel)⟩
theorem lw_p60 : lw_okq (⟨"OilRoundModel", "began", "(I)V"⟩, 45) := ⟨⟨by decide +kernel, by decide +kernel⟩, List.mem_of_getElem? (i := 670) (by decide +kernel), List.mem_of_getElem? (i := 1031) (by decide +kernel), List.mem_of_getElem? (i := 1032) (by decide +kernel)⟩
theorem lw_p61 : lw_okq (⟨"OilRoundModel", "marked", "(I)I"⟩, 45) := ⟨⟨by decide +kernel, by decide +kernel⟩, List.mem_of_getElem? (i := 670) (by decide +kernel), List.mem_of_getElem? (i := 1035) (by decide +kernel), List.mem_of_getElem? (i := 1036) (by decide +kernel)⟩
def lw_privs_4 : List (MethodName × Nat) := [(⟨"OilRoundModel", "cost", "(II)I"⟩, 45), (⟨"OilRoundModel", "makeNarrower", "(II)V"⟩, 45), (⟨"OilRoundModel", "step", "()V"⟩, 45), (⟨"OilRoundModel", "byteAt", "(I)I"⟩, 45), (⟨"OilRoundModel", "readOne", "()V"⟩, 45), (⟨"OilRoundModel", "name", "()J"⟩, 45), (⟨"OilRoundModel", "take", "(Z)V"⟩, 45), (⟨"OilRoundModel", "bad", "(I)V"⟩, 45), (⟨"OilRoundModel", "number", "()I"⟩, 45), (⟨"OilRoundModel", "is", "(I)Z"⟩, 45), (⟨"OilRoundModel", "kindOf", "(I)I"⟩, 45), (⟨"OilRoundModel", "weight", "(I)I"⟩, 45), (⟨"OilRoundModel", "began", "(I)V"⟩, 45), (⟨"OilRoundModel", "marked", "(I)I"⟩, 45)]
theorem lw_r4 : ∀ q ∈ lw_privs_4, lw_okq q := List.forall_mem_cons.mpr ⟨lw_p48, List.forall_mem_cons.mpr ⟨lw_p49, List.forall_mem_cons.mpr ⟨lw_p50, List.forall_mem_cons.mpr ⟨lw_p51, List.forall_mem_cons.mpr ⟨lw_p52, List.forall_mem_cons.mpr ⟨lw_p53, List.forall_mem_cons.mpr ⟨lw_p54, List.forall_mem_cons.mpr ⟨lw_p55, List.forall_mem_cons.mpr ⟨lw_p56, List.forall_mem_cons.mpr ⟨lw_p57, List.forall_mem_cons.mpr ⟨lw_p58, List.forall_mem_cons.mpr ⟨lw_p59, List.forall_mem_cons.mpr ⟨lw_p60, List.forall_mem_cons.mpr ⟨lw_p61, fun _ h => absurd h List.not_mem_nil⟩⟩⟩⟩⟩⟩⟩⟩⟩⟩⟩⟩⟩⟩
def lw_privs : List (MethodName × Nat) := lw_privs_1 ++ (lw_privs_2 ++ (lw_privs_3 ++ (lw_privs_4)))
def lw_tbl : List Cond := k2_sels lw_privs ++ tables_1
theorem lw_privs_ok : ∀ q ∈ lw_privs, lw_okq q := by
  show ∀ q ∈ lw_privs_1 ++ (lw_privs_2 ++ (lw_privs_3 ++ (lw_privs_4))), lw_okq q
  exact List.forall_mem_append.mpr ⟨lw_r1, List.forall_mem_append.mpr ⟨lw_r2, List.forall_mem_append.mpr ⟨lw_r3, lw_r4⟩⟩⟩
-- ===== end of PART A; then your names; then what follows =====
/-! ===== BEGIN words of one list among another's, by their places ===== -/
/-! ===== END ===== -/

/-! ===== BEGIN printed: names, fields, word lists, decode rows ===== -/
def RX0 : String := "OilRound$Asks"
def TX0 : u_T := fun k => match k with
  | 0 => ("OilRound$Asks", "begun", "[I", true)
  | _ => ("OilRound$Asks", "length", "I", false)
def tyX0 : Nat → FieldType := fun k => match k with
  | 0 => .array .int
  | _ => .int
theorem nmX0 : ∀ a, a < 2 → ∀ b, b < 2 → a ≠ b → (TX0 a).2.1 ≠ (TX0 b).2.1 := by decide +kernel
theorem tyX0_ok : ∀ k, k < 2 → parseFieldDescriptor (TX0 k).2.2.1 = some (tyX0 k) := by decide +kernel
abbrev cX0_init : ByteArray := prog_2_method_1_code
def yX0_init : MethodName := ⟨RX0, "<init>", "()V"⟩
abbrev cX0_emptyTrace : ByteArray := prog_2_method_2_code
def yX0_emptyTrace : MethodName := ⟨RX0, "emptyTrace", "()V"⟩
abbrev cX0_traced : ByteArray := prog_2_method_3_code
def yX0_traced : MethodName := ⟨RX0, "traced", "(I)I"⟩
abbrev cX0_weight : ByteArray := prog_2_method_4_code
def yX0_weight : MethodName := ⟨RX0, "weight", "(LOilRound$House;)I"⟩
abbrev cX0_mark : ByteArray := prog_2_method_5_code
def yX0_mark : MethodName := ⟨RX0, "mark", "(LOilRound$House;)I"⟩
abbrev cX0_lentWeight : ByteArray := prog_2_method_6_code
def yX0_lentWeight : MethodName := ⟨RX0, "lentWeight", "(LOilRound$House;)I"⟩
abbrev cX0_knownWeight : ByteArray := prog_2_method_7_code
def yX0_knownWeight : MethodName := ⟨RX0, "knownWeight", "(LOilRound$House;)I"⟩
abbrev cX0_steadyWeight : ByteArray := prog_2_method_8_code
def yX0_steadyWeight : MethodName := ⟨RX0, "steadyWeight", "(LOilRound$House;)I"⟩
abbrev cX0_leakyWeight : ByteArray := prog_2_method_9_code
def yX0_leakyWeight : MethodName := ⟨RX0, "leakyWeight", "(LOilRound$House;)I"⟩
abbrev cX0_lentMark : ByteArray := prog_2_method_10_code
def yX0_lentMark : MethodName := ⟨RX0, "lentMark", "(LOilRound$House;)I"⟩
abbrev cX0_knownMark : ByteArray := prog_2_method_11_code
def yX0_knownMark : MethodName := ⟨RX0, "knownMark", "(LOilRound$House;)I"⟩
abbrev cX0_leakyMark : ByteArray := prog_2_method_12_code
def yX0_leakyMark : MethodName := ⟨RX0, "leakyMark", "(LOilRound$House;)I"⟩
abbrev cX0_begin : ByteArray := prog_2_method_13_code
def yX0_begin : MethodName := ⟨RX0, "begin", "(I)V"⟩
def RX1 : String := "OilRound$House"
def TX1 : u_T := fun k => match k with
  | 0 => ("OilRound$House", "x", "I", true)
  | 1 => ("OilRound$House", "y", "I", true)
  | 2 => ("OilRound$House", "holds", "I", true)
  | 3 => ("OilRound$House", "plan", "LOilRound$Plan;", true)
  | 4 => ("OilRound$House", "a", "I", false)
  | 5 => ("OilRound$House", "b", "I", false)
  | 6 => ("OilRound$House", "c", "I", false)
  | 7 => ("OilRound$House", "d", "I", false)
  | 8 => ("OilRound$House", "up", "I", false)
  | 9 => ("OilRound$House", "down", "I", false)
  | 10 => ("OilRound$House", "fills", "I", false)
  | 11 => ("OilRound$House", "note", "I", false)
  | 12 => ("OilRound$House", "everNoted", "Z", false)
  | 13 => ("OilRound$House", "daysSince", "I", false)
  | _ => ("OilRound$House", "coldSince", "I", false)
def tyX1 : Nat → FieldType := fun k => match k with
  | 0 => .int
  | 1 => .int
  | 2 => .int
  | 3 => .object "OilRound$Plan"
  | 4 => .int
  | 5 => .int
  | 6 => .int
  | 7 => .int
  | 8 => .int
  | 9 => .int
  | 10 => .int
  | 11 => .int
  | 12 => .boolean
  | 13 => .int
  | _ => .int
theorem nmX1 : ∀ a, a < 15 → ∀ b, b < 15 → a ≠ b → (TX1 a).2.1 ≠ (TX1 b).2.1 := by decide +kernel
theorem tyX1_ok : ∀ k, k < 15 → parseFieldDescriptor (TX1 k).2.2.1 = some (tyX1 k) := by decide +kernel
abbrev cX1_init : ByteArray := prog_3_method_1_code
def yX1_init : MethodName := ⟨RX1, "<init>", "(III)V"⟩
abbrev cX1_low : ByteArray := prog_3_method_2_code
def yX1_low : MethodName := ⟨RX1, "low", "(I)I"⟩
abbrev cX1_high : ByteArray := prog_3_method_3_code
def yX1_high : MethodName := ⟨RX1, "high", "(I)I"⟩
abbrev cX1_endDay : ByteArray := prog_3_method_4_code
def yX1_endDay : MethodName := ⟨RX1, "endDay", "(I)V"⟩
abbrev cX1_isSafe : ByteArray := prog_3_method_5_code
def yX1_isSafe : MethodName := ⟨RX1, "isSafe", "()Z"⟩
abbrev cX1_isDue : ByteArray := prog_3_method_6_code
def yX1_isDue : MethodName := ⟨RX1, "isDue", "(II)Z"⟩
abbrev cX1_daysToGo : ByteArray := prog_3_method_7_code
def yX1_daysToGo : MethodName := ⟨RX1, "daysToGo", "(I)I"⟩
abbrev cX1_daysAboveZero : ByteArray := prog_3_method_8_code
def yX1_daysAboveZero : MethodName := ⟨RX1, "daysAboveZero", "(I)I"⟩
abbrev cX1_mayNeed : ByteArray := prog_3_method_9_code
def yX1_mayNeed : MethodName := ⟨RX1, "mayNeed", "()I"⟩
abbrev cX1_takeFill : ByteArray := prog_3_method_10_code
def yX1_takeFill : MethodName := ⟨RX1, "takeFill", "(I)V"⟩
abbrev cX1_noteOf : ByteArray := prog_3_method_11_code
def yX1_noteOf : MethodName := ⟨RX1, "noteOf", "(I)I"⟩
abbrev cX1_narrow : ByteArray := prog_3_method_12_code
def yX1_narrow : MethodName := ⟨RX1, "narrow", "(I)V"⟩
abbrev cX1_cut : ByteArray := prog_3_method_13_code
def yX1_cut : MethodName := ⟨RX1, "cut", "(II)I"⟩
abbrev cX1_roundedUp : ByteArray := prog_3_method_14_code
def yX1_roundedUp : MethodName := ⟨RX1, "roundedUp", "(II)I"⟩
abbrev cX1_isOf : ByteArray := prog_3_method_15_code
def yX1_isOf : MethodName := ⟨RX1, "isOf", "(I)Z"⟩
abbrev cX1_toldKind : ByteArray := prog_3_method_16_code
def yX1_toldKind : MethodName := ⟨RX1, "toldKind", "()I"⟩
abbrev cX1_isLeaky : ByteArray := prog_3_method_17_code
def yX1_isLeaky : MethodName := ⟨RX1, "isLeaky", "()Z"⟩
abbrev cX1_isSteady : ByteArray := prog_3_method_18_code
def yX1_isSteady : MethodName := ⟨RX1, "isSteady", "()Z"⟩
abbrev cX1_isKnown : ByteArray := prog_3_method_19_code
def yX1_isKnown : MethodName := ⟨RX1, "isKnown", "()Z"⟩
def RX2 : String := "OilRound$Plan"
def TX2 : u_T := fun k => match k with
  | 0 => ("OilRound$Plan", "way", "I", false)
  | 1 => ("OilRound$Plan", "litres", "I", false)
  | _ => ("OilRound$Plan", "ownPrice", "I", false)
def tyX2 : Nat → FieldType := fun k => match k with
  | 0 => .int
  | 1 => .int
  | _ => .int
theorem nmX2 : ∀ a, a < 3 → ∀ b, b < 3 → a ≠ b → (TX2 a).2.1 ≠ (TX2 b).2.1 := by decide +kernel
theorem tyX2_ok : ∀ k, k < 3 → parseFieldDescriptor (TX2 k).2.2.1 = some (tyX2 k) := by decide +kernel
abbrev cX2_init : ByteArray := prog_4_method_1_code
def yX2_init : MethodName := ⟨RX2, "<init>", "()V"⟩
abbrev cX2_become : ByteArray := prog_4_method_2_code
def yX2_become : MethodName := ⟨RX2, "become", "(III)V"⟩
abbrev cX2_costOf : ByteArray := prog_4_method_3_code
def yX2_costOf : MethodName := ⟨RX2, "costOf", "(II)I"⟩
abbrev cX2_useUp : ByteArray := prog_4_method_4_code
def yX2_useUp : MethodName := ⟨RX2, "useUp", "(I)V"⟩
abbrev cX2_ahead : ByteArray := prog_4_method_5_code
def yX2_ahead : MethodName := ⟨RX2, "ahead", "(I)I"⟩
def RX3 : String := "OilRound$PlanText"
def TX3 : u_T := fun k => match k with
  | 0 => ("OilRound$PlanText", "bytes", "[B", true)
  | 1 => ("OilRound$PlanText", "size", "I", false)
  | 2 => ("OilRound$PlanText", "latestFault", "I", false)
  | 3 => ("OilRound$PlanText", "next", "I", false)
  | 4 => ("OilRound$PlanText", "token", "I", false)
  | 5 => ("OilRound$PlanText", "start", "I", false)
  | 6 => ("OilRound$PlanText", "number", "I", false)
  | 7 => ("OilRound$PlanText", "state", "I", false)
  | 8 => ("OilRound$PlanText", "toldHouse", "LOilRound$House;", false)
  | 9 => ("OilRound$PlanText", "way", "I", false)
  | 10 => ("OilRound$PlanText", "litres", "I", false)
  | _ => ("OilRound$PlanText", "ownPrice", "I", false)
def tyX3 : Nat → FieldType := fun k => match k with
  | 0 => .array .byte
  | 1 => .int
  | 2 => .int
  | 3 => .int
  | 4 => .int
  | 5 => .int
  | 6 => .int
  | 7 => .int
  | 8 => .object "OilRound$House"
  | 9 => .int
  | 10 => .int
  | _ => .int
theorem nmX3 : ∀ a, a < 12 → ∀ b, b < 12 → a ≠ b → (TX3 a).2.1 ≠ (TX3 b).2.1 := by decide +kernel
theorem tyX3_ok : ∀ k, k < 12 → parseFieldDescriptor (TX3 k).2.2.1 = some (tyX3 k) := by decide +kernel
abbrev cX3_init : ByteArray := prog_5_method_1_code
def yX3_init : MethodName := ⟨RX3, "<init>", "()V"⟩
abbrev cX3_append : ByteArray := prog_5_method_2_code
def yX3_append : MethodName := ⟨RX3, "append", "(JI)I"⟩
abbrev cX3_readAll : ByteArray := prog_5_method_3_code
def yX3_readAll : MethodName := ⟨RX3, "readAll", "([LOilRound$House;)I"⟩
abbrev cX3_readOnce : ByteArray := prog_5_method_4_code
def yX3_readOnce : MethodName := ⟨RX3, "readOnce", "([LOilRound$House;Z)I"⟩
abbrev cX3_takeToken : ByteArray := prog_5_method_5_code
def yX3_takeToken : MethodName := ⟨RX3, "takeToken", "([LOilRound$House;)I"⟩
abbrev cX3_canStandHere : ByteArray := prog_5_method_6_code
def yX3_canStandHere : MethodName := ⟨RX3, "canStandHere", "()Z"⟩
abbrev cX3_takeWay : ByteArray := prog_5_method_7_code
def yX3_takeWay : MethodName := ⟨RX3, "takeWay", "()V"⟩
abbrev cX3_readToken : ByteArray := prog_5_method_8_code
def yX3_readToken : MethodName := ⟨RX3, "readToken", "()V"⟩
abbrev cX3_nameToken : ByteArray := prog_5_method_9_code
def yX3_nameToken : MethodName := ⟨RX3, "nameToken", "()I"⟩
abbrev cX3_isName : ByteArray := prog_5_method_10_code
def yX3_isName : MethodName := ⟨RX3, "isName", "(Ljava/lang/String;)Z"⟩
abbrev cX3_numberToken : ByteArray := prog_5_method_11_code
def yX3_numberToken : MethodName := ⟨RX3, "numberToken", "()I"⟩
abbrev cX3_isLetter : ByteArray := prog_5_method_12_code
def yX3_isLetter : MethodName := ⟨RX3, "isLetter", "(I)Z"⟩
abbrev cX3_isFigure : ByteArray := prog_5_method_13_code
def yX3_isFigure : MethodName := ⟨RX3, "isFigure", "(I)Z"⟩
abbrev cX3_byteAt : ByteArray := prog_5_method_14_code
def yX3_byteAt : MethodName := ⟨RX3, "byteAt", "(I)I"⟩
def RX4 : String := "OilRound$Route"
def TX4 : u_T := fun k => match k with
  | 0 => ("OilRound$Route", "numbers", "[I", true)
  | 1 => ("OilRound$Route", "xs", "[I", true)
  | 2 => ("OilRound$Route", "ys", "[I", true)
  | 3 => ("OilRound$Route", "order", "[I", true)
  | 4 => ("OilRound$Route", "least", "[I", true)
  | 5 => ("OilRound$Route", "keptSet", "I", false)
  | _ => ("OilRound$Route", "size", "I", false)
def tyX4 : Nat → FieldType := fun k => match k with
  | 0 => .array .int
  | 1 => .array .int
  | 2 => .array .int
  | 3 => .array .int
  | 4 => .array .int
  | 5 => .int
  | _ => .int
theorem nmX4 : ∀ a, a < 7 → ∀ b, b < 7 → a ≠ b → (TX4 a).2.1 ≠ (TX4 b).2.1 := by decide +kernel
theorem tyX4_ok : ∀ k, k < 7 → parseFieldDescriptor (TX4 k).2.2.1 = some (tyX4 k) := by decide +kernel
abbrev cX4_init : ByteArray := prog_6_method_1_code
def yX4_init : MethodName := ⟨RX4, "<init>", "()V"⟩
abbrev cX4_way : ByteArray := prog_6_method_2_code
def yX4_way : MethodName := ⟨RX4, "way", "()I"⟩
abbrev cX4_houseOn : ByteArray := prog_6_method_3_code
def yX4_houseOn : MethodName := ⟨RX4, "houseOn", "(I)I"⟩
abbrev cX4_prepare : ByteArray := prog_6_method_4_code
def yX4_prepare : MethodName := ⟨RX4, "prepare", "(I[LOilRound$House;)V"⟩
abbrev cX4_gather : ByteArray := prog_6_method_5_code
def yX4_gather : MethodName := ⟨RX4, "gather", "(I[LOilRound$House;)V"⟩
abbrev cX4_measure : ByteArray := prog_6_method_6_code
def yX4_measure : MethodName := ⟨RX4, "measure", "(II)V"⟩
abbrev cX4_arrange : ByteArray := prog_6_method_7_code
def yX4_arrange : MethodName := ⟨RX4, "arrange", "()V"⟩
abbrev cX4_firstNext : ByteArray := prog_6_method_8_code
def yX4_firstNext : MethodName := ⟨RX4, "firstNext", "(II)I"⟩
abbrev cX4_wayBy : ByteArray := prog_6_method_9_code
def yX4_wayBy : MethodName := ⟨RX4, "wayBy", "(III)I"⟩
abbrev cX4_leastAt : ByteArray := prog_6_method_10_code
def yX4_leastAt : MethodName := ⟨RX4, "leastAt", "(II)I"⟩
abbrev cX4_between : ByteArray := prog_6_method_11_code
def yX4_between : MethodName := ⟨RX4, "between", "(II)I"⟩
def RX5 : String := "OilRound"
def TX5 : u_T := fun k => match k with
  | 0 => ("OilRound", "houses", "[LOilRound$House;", true)
  | 1 => ("OilRound", "route", "LOilRound$Route;", true)
  | 2 => ("OilRound", "text", "LOilRound$PlanText;", true)
  | 3 => ("OilRound", "asks", "LOilRound$Asks;", true)
  | 4 => ("OilRound", "houseCount", "I", false)
  | 5 => ("OilRound", "daysGone", "I", false)
  | 6 => ("OilRound", "lookDays", "I", false)
  | 7 => ("OilRound", "lookCold", "I", false)
  | 8 => ("OilRound", "lorryHolds", "I", false)
  | 9 => ("OilRound", "dayPrice", "I", false)
  | 10 => ("OilRound", "inDepot", "I", false)
  | 11 => ("OilRound", "litresCome", "J", false)
  | 12 => ("OilRound", "litresFilled", "J", false)
  | _ => ("OilRound", "allPaid", "J", false)
def tyX5 : Nat → FieldType := fun k => match k with
  | 0 => .array (.object "OilRound$House")
  | 1 => .object "OilRound$Route"
  | 2 => .object "OilRound$PlanText"
  | 3 => .object "OilRound$Asks"
  | 4 => .int
  | 5 => .int
  | 6 => .int
  | 7 => .int
  | 8 => .int
  | 9 => .int
  | 10 => .int
  | 11 => .long
  | 12 => .long
  | _ => .long
theorem nmX5 : ∀ a, a < 14 → ∀ b, b < 14 → a ≠ b → (TX5 a).2.1 ≠ (TX5 b).2.1 := by decide +kernel
theorem tyX5_ok : ∀ k, k < 14 → parseFieldDescriptor (TX5 k).2.2.1 = some (tyX5 k) := by decide +kernel
abbrev cX5_init : ByteArray := prog_1_method_1_code
def yX5_init : MethodName := ⟨RX5, "<init>", "()V"⟩
abbrev cX5_house : ByteArray := prog_1_method_2_code
def yX5_house : MethodName := ⟨RX5, "house", "(III)I"⟩
abbrev cX5_prior : ByteArray := prog_1_method_3_code
def yX5_prior : MethodName := ⟨RX5, "prior", "(IIIII)I"⟩
abbrev cX5_day : ByteArray := prog_1_method_4_code
def yX5_day : MethodName := ⟨RX5, "day", "(I)I"⟩
abbrev cX5_look : ByteArray := prog_1_method_5_code
def yX5_look : MethodName := ⟨RX5, "look", "(II)I"⟩
abbrev cX5_told : ByteArray := prog_1_method_6_code
def yX5_told : MethodName := ⟨RX5, "told", "(II)I"⟩
abbrev cX5_lasts : ByteArray := prog_1_method_7_code
def yX5_lasts : MethodName := ⟨RX5, "lasts", "(II)I"⟩
abbrev cX5_stock : ByteArray := prog_1_method_8_code
def yX5_stock : MethodName := ⟨RX5, "stock", "(I)I"⟩
abbrev cX5_lorry : ByteArray := prog_1_method_9_code
def yX5_lorry : MethodName := ⟨RX5, "lorry", "(I)I"⟩
abbrev cX5_calls : ByteArray := prog_1_method_10_code
def yX5_calls : MethodName := ⟨RX5, "calls", "()I"⟩
abbrev cX5_round : ByteArray := prog_1_method_11_code
def yX5_round : MethodName := ⟨RX5, "round", "(II)I"⟩
abbrev cX5_stop : ByteArray := prog_1_method_12_code
def yX5_stop : MethodName := ⟨RX5, "stop", "(II)I"⟩
abbrev cX5_fill : ByteArray := prog_1_method_13_code
def yX5_fill : MethodName := ⟨RX5, "fill", "(II)I"⟩
abbrev cX5_price : ByteArray := prog_1_method_14_code
def yX5_price : MethodName := ⟨RX5, "price", "(I)I"⟩
abbrev cX5_feed : ByteArray := prog_1_method_15_code
def yX5_feed : MethodName := ⟨RX5, "feed", "(JI)I"⟩
abbrev cX5_plans : ByteArray := prog_1_method_16_code
def yX5_plans : MethodName := ⟨RX5, "plans", "()I"⟩
abbrev cX5_fault : ByteArray := prog_1_method_17_code
def yX5_fault : MethodName := ⟨RX5, "fault", "()I"⟩
abbrev cX5_quote : ByteArray := prog_1_method_18_code
def yX5_quote : MethodName := ⟨RX5, "quote", "(II)I"⟩
abbrev cX5_kind : ByteArray := prog_1_method_19_code
def yX5_kind : MethodName := ⟨RX5, "kind", "(I)I"⟩
abbrev cX5_as : ByteArray := prog_1_method_20_code
def yX5_as : MethodName := ⟨RX5, "as", "(II)I"⟩
abbrev cX5_ask : ByteArray := prog_1_method_21_code
def yX5_ask : MethodName := ⟨RX5, "ask", "(II)I"⟩
abbrev cX5_trace : ByteArray := prog_1_method_22_code
def yX5_trace : MethodName := ⟨RX5, "trace", "(I)I"⟩
abbrev cX5_count : ByteArray := prog_1_method_23_code
def yX5_count : MethodName := ⟨RX5, "count", "(I)J"⟩
abbrev cX5_isOutside : ByteArray := prog_1_method_24_code
def yX5_isOutside : MethodName := ⟨RX5, "isOutside", "(III)Z"⟩
abbrev cX5_houseIn : ByteArray := prog_1_method_25_code
def yX5_houseIn : MethodName := ⟨RX5, "houseIn", "([LOilRound$House;I)LOilRound$House;"⟩
abbrev cX5_houseAt : ByteArray := prog_1_method_26_code
def yX5_houseAt : MethodName := ⟨RX5, "houseAt", "(I)LOilRound$House;"⟩
abbrev cX5_countDue : ByteArray := prog_1_method_27_code
def yX5_countDue : MethodName := ⟨RX5, "countDue", "()I"⟩
abbrev cX5_mostUrgent : ByteArray := prog_1_method_28_code
def yX5_mostUrgent : MethodName := ⟨RX5, "mostUrgent", "(I)I"⟩
abbrev cX5_isNoRound : ByteArray := prog_1_method_29_code
def yX5_isNoRound : MethodName := ⟨RX5, "isNoRound", "(I)Z"⟩
abbrev cX5_needOf : ByteArray := prog_1_method_30_code
def yX5_needOf : MethodName := ⟨RX5, "needOf", "(I)I"⟩
def RX6 : String := "OilRoundModel"
def TX6 : u_T := fun k => match k with
  | 0 => ("OilRoundModel", "thrown", "I", false)
  | 1 => ("OilRoundModel", "houses", "I", false)
  | 2 => ("OilRoundModel", "px", "[I", true)
  | 3 => ("OilRoundModel", "py", "[I", true)
  | 4 => ("OilRoundModel", "holds", "[I", true)
  | 5 => ("OilRoundModel", "prior", "[I", true)
  | 6 => ("OilRoundModel", "up", "[I", true)
  | 7 => ("OilRoundModel", "down", "[I", true)
  | 8 => ("OilRoundModel", "fills", "[I", true)
  | 9 => ("OilRoundModel", "noted", "[I", true)
  | 10 => ("OilRoundModel", "wasNoted", "[Z", true)
  | 11 => ("OilRoundModel", "days", "[I", true)
  | 12 => ("OilRoundModel", "colds", "[I", true)
  | 13 => ("OilRoundModel", "plan", "[I", true)
  | 14 => ("OilRoundModel", "planMany", "[I", true)
  | 15 => ("OilRoundModel", "planPrice", "[I", true)
  | 16 => ("OilRoundModel", "day", "I", false)
  | 17 => ("OilRoundModel", "ahead", "I", false)
  | 18 => ("OilRoundModel", "aheadCold", "I", false)
  | 19 => ("OilRoundModel", "stock", "I", false)
  | 20 => ("OilRoundModel", "lorry", "I", false)
  | 21 => ("OilRoundModel", "price", "I", false)
  | 22 => ("OilRoundModel", "came", "J", false)
  | 23 => ("OilRoundModel", "filled", "J", false)
  | 24 => ("OilRoundModel", "paid", "J", false)
  | 25 => ("OilRoundModel", "own", "[I", true)
  | 26 => ("OilRoundModel", "many", "I", false)
  | 27 => ("OilRoundModel", "least", "[I", true)
  | 28 => ("OilRoundModel", "tape", "[I", true)
  | 29 => ("OilRoundModel", "taped", "I", false)
  | 30 => ("OilRoundModel", "latest", "I", false)
  | 31 => ("OilRoundModel", "sizeOf", "I", false)
  | 32 => ("OilRoundModel", "at", "I", false)
  | 33 => ("OilRoundModel", "sort", "I", false)
  | 34 => ("OilRoundModel", "place", "I", false)
  | 35 => ("OilRoundModel", "end", "I", false)
  | 36 => ("OilRoundModel", "fault", "I", false)
  | 37 => ("OilRoundModel", "faultAt", "I", false)
  | 38 => ("OilRoundModel", "told", "I", false)
  | 39 => ("OilRoundModel", "toldHouse", "[I", true)
  | 40 => ("OilRoundModel", "toldPlan", "[I", true)
  | 41 => ("OilRoundModel", "toldMany", "[I", true)
  | 42 => ("OilRoundModel", "toldPrice", "[I", true)
  | 43 => ("OilRoundModel", "trace", "[I", true)
  | _ => ("OilRoundModel", "traced", "I", false)
def tyX6 : Nat → FieldType := fun k => match k with
  | 0 => .int
  | 1 => .int
  | 2 => .array .int
  | 3 => .array .int
  | 4 => .array .int
  | 5 => .array .int
  | 6 => .array .int
  | 7 => .array .int
  | 8 => .array .int
  | 9 => .array .int
  | 10 => .array .boolean
  | 11 => .array .int
  | 12 => .array .int
  | 13 => .array .int
  | 14 => .array .int
  | 15 => .array .int
  | 16 => .int
  | 17 => .int
  | 18 => .int
  | 19 => .int
  | 20 => .int
  | 21 => .int
  | 22 => .long
  | 23 => .long
  | 24 => .long
  | 25 => .array .int
  | 26 => .int
  | 27 => .array .int
  | 28 => .array .int
  | 29 => .int
  | 30 => .int
  | 31 => .int
  | 32 => .int
  | 33 => .int
  | 34 => .int
  | 35 => .int
  | 36 => .int
  | 37 => .int
  | 38 => .int
  | 39 => .array .int
  | 40 => .array .int
  | 41 => .array .int
  | 42 => .array .int
  | 43 => .array .int
  | _ => .int
theorem nmX6 : ∀ a, a < 45 → ∀ b, b < 45 → a ≠ b → (TX6 a).2.1 ≠ (TX6 b).2.1 := by decide +kernel
theorem tyX6_ok : ∀ k, k < 45 → parseFieldDescriptor (TX6 k).2.2.1 = some (tyX6 k) := by decide +kernel
abbrev cX6_init : ByteArray := prog_8_method_1_code
def yX6_init : MethodName := ⟨RX6, "<init>", "()V"⟩
abbrev cX6_in : ByteArray := prog_8_method_3_code
def yX6_in : MethodName := ⟨RX6, "in", "(JJJ)Z"⟩
abbrev cX6_isHouse : ByteArray := prog_8_method_4_code
def yX6_isHouse : MethodName := ⟨RX6, "isHouse", "(I)Z"⟩
abbrev cX6_house : ByteArray := prog_8_method_5_code
def yX6_house : MethodName := ⟨RX6, "house", "(III)I"⟩
abbrev cX6_prior : ByteArray := prog_8_method_6_code
def yX6_prior : MethodName := ⟨RX6, "prior", "(IIIII)I"⟩
abbrev cX6_lowOf : ByteArray := prog_8_method_7_code
def yX6_lowOf : MethodName := ⟨RX6, "lowOf", "(II)I"⟩
abbrev cX6_highOf : ByteArray := prog_8_method_8_code
def yX6_highOf : MethodName := ⟨RX6, "highOf", "(II)I"⟩
abbrev cX6_day : ByteArray := prog_8_method_9_code
def yX6_day : MethodName := ⟨RX6, "day", "(I)I"⟩
abbrev cX6_isDue : ByteArray := prog_8_method_10_code
def yX6_isDue : MethodName := ⟨RX6, "isDue", "(I)Z"⟩
abbrev cX6_due : ByteArray := prog_8_method_11_code
def yX6_due : MethodName := ⟨RX6, "due", "()I"⟩
abbrev cX6_look : ByteArray := prog_8_method_12_code
def yX6_look : MethodName := ⟨RX6, "look", "(II)I"⟩
abbrev cX6_told : ByteArray := prog_8_method_13_code
def yX6_told : MethodName := ⟨RX6, "told", "(II)I"⟩
abbrev cX6_lasts : ByteArray := prog_8_method_14_code
def yX6_lasts : MethodName := ⟨RX6, "lasts", "(II)I"⟩
abbrev cX6_stock : ByteArray := prog_8_method_15_code
def yX6_stock : MethodName := ⟨RX6, "stock", "(I)I"⟩
abbrev cX6_lorry : ByteArray := prog_8_method_16_code
def yX6_lorry : MethodName := ⟨RX6, "lorry", "(I)I"⟩
abbrev cX6_canGo : ByteArray := prog_8_method_17_code
def yX6_canGo : MethodName := ⟨RX6, "canGo", "(I)I"⟩
abbrev cX6_calls : ByteArray := prog_8_method_18_code
def yX6_calls : MethodName := ⟨RX6, "calls", "()I"⟩
abbrev cX6_isSet : ByteArray := prog_8_method_19_code
def yX6_isSet : MethodName := ⟨RX6, "isSet", "(I)Z"⟩
abbrev cX6_size : ByteArray := prog_8_method_20_code
def yX6_size : MethodName := ⟨RX6, "size", "(I)I"⟩
abbrev cX6_fromDepot : ByteArray := prog_8_method_21_code
def yX6_fromDepot : MethodName := ⟨RX6, "fromDepot", "(I)I"⟩
abbrev cX6_between : ByteArray := prog_8_method_22_code
def yX6_between : MethodName := ⟨RX6, "between", "(II)I"⟩
abbrev cX6_findWays : ByteArray := prog_8_method_23_code
def yX6_findWays : MethodName := ⟨RX6, "findWays", "()V"⟩
abbrev cX6_nextOf : ByteArray := prog_8_method_24_code
def yX6_nextOf : MethodName := ⟨RX6, "nextOf", "(II)I"⟩
abbrev cX6_round : ByteArray := prog_8_method_25_code
def yX6_round : MethodName := ⟨RX6, "round", "(II)I"⟩
abbrev cX6_stop : ByteArray := prog_8_method_26_code
def yX6_stop : MethodName := ⟨RX6, "stop", "(II)I"⟩
abbrev cX6_most : ByteArray := prog_8_method_27_code
def yX6_most : MethodName := ⟨RX6, "most", "(II)I"⟩
abbrev cX6_least : ByteArray := prog_8_method_28_code
def yX6_least : MethodName := ⟨RX6, "least", "(II)I"⟩
abbrev cX6_roundedUp : ByteArray := prog_8_method_29_code
def yX6_roundedUp : MethodName := ⟨RX6, "roundedUp", "(II)I"⟩
abbrev cX6_cut : ByteArray := prog_8_method_30_code
def yX6_cut : MethodName := ⟨RX6, "cut", "(II)I"⟩
abbrev cX6_makeNarrower : ByteArray := prog_8_method_31_code
def yX6_makeNarrower : MethodName := ⟨RX6, "makeNarrower", "(II)V"⟩
abbrev cX6_cost : ByteArray := prog_8_method_32_code
def yX6_cost : MethodName := ⟨RX6, "cost", "(II)I"⟩
abbrev cX6_fill : ByteArray := prog_8_method_33_code
def yX6_fill : MethodName := ⟨RX6, "fill", "(II)I"⟩
abbrev cX6_price : ByteArray := prog_8_method_34_code
def yX6_price : MethodName := ⟨RX6, "price", "(I)I"⟩
abbrev cX6_quote : ByteArray := prog_8_method_35_code
def yX6_quote : MethodName := ⟨RX6, "quote", "(II)I"⟩
abbrev cX6_feed : ByteArray := prog_8_method_36_code
def yX6_feed : MethodName := ⟨RX6, "feed", "(JI)I"⟩
abbrev cX6_byteAt : ByteArray := prog_8_method_37_code
def yX6_byteAt : MethodName := ⟨RX6, "byteAt", "(I)I"⟩
abbrev cX6_isLetter : ByteArray := prog_8_method_38_code
def yX6_isLetter : MethodName := ⟨RX6, "isLetter", "(I)Z"⟩
abbrev cX6_isFigure : ByteArray := prog_8_method_39_code
def yX6_isFigure : MethodName := ⟨RX6, "isFigure", "(I)Z"⟩
abbrev cX6_step : ByteArray := prog_8_method_40_code
def yX6_step : MethodName := ⟨RX6, "step", "()V"⟩
abbrev cX6_bad : ByteArray := prog_8_method_41_code
def yX6_bad : MethodName := ⟨RX6, "bad", "(I)V"⟩
abbrev cX6_take : ByteArray := prog_8_method_42_code
def yX6_take : MethodName := ⟨RX6, "take", "(Z)V"⟩
abbrev cX6_is : ByteArray := prog_8_method_43_code
def yX6_is : MethodName := ⟨RX6, "is", "(I)Z"⟩
abbrev cX6_name : ByteArray := prog_8_method_44_code
def yX6_name : MethodName := ⟨RX6, "name", "()J"⟩
abbrev cX6_number : ByteArray := prog_8_method_45_code
def yX6_number : MethodName := ⟨RX6, "number", "()I"⟩
abbrev cX6_readOne : ByteArray := prog_8_method_46_code
def yX6_readOne : MethodName := ⟨RX6, "readOne", "()V"⟩
abbrev cX6_plans : ByteArray := prog_8_method_47_code
def yX6_plans : MethodName := ⟨RX6, "plans", "()I"⟩
abbrev cX6_fault : ByteArray := prog_8_method_48_code
def yX6_fault : MethodName := ⟨RX6, "fault", "()I"⟩
abbrev cX6_kindOf : ByteArray := prog_8_method_49_code
def yX6_kindOf : MethodName := ⟨RX6, "kindOf", "(I)I"⟩
abbrev cX6_kind : ByteArray := prog_8_method_50_code
def yX6_kind : MethodName := ⟨RX6, "kind", "(I)I"⟩
abbrev cX6_as : ByteArray := prog_8_method_51_code
def yX6_as : MethodName := ⟨RX6, "as", "(II)I"⟩
abbrev cX6_began : ByteArray := prog_8_method_52_code
def yX6_began : MethodName := ⟨RX6, "began", "(I)V"⟩
abbrev cX6_weight : ByteArray := prog_8_method_53_code
def yX6_weight : MethodName := ⟨RX6, "weight", "(I)I"⟩
abbrev cX6_marked : ByteArray := prog_8_method_54_code
def yX6_marked : MethodName := ⟨RX6, "marked", "(I)I"⟩
abbrev cX6_ask : ByteArray := prog_8_method_55_code
def yX6_ask : MethodName := ⟨RX6, "ask", "(II)I"⟩
abbrev cX6_trace : ByteArray := prog_8_method_56_code
def yX6_trace : MethodName := ⟨RX6, "trace", "(I)I"⟩
abbrev cX6_count : ByteArray := prog_8_method_57_code
def yX6_count : MethodName := ⟨RX6, "count", "(I)J"⟩
def RJ6 : String := "java/lang/Integer"
def TJ6 : u_T := fun k => match k with
  | _ => ("", "", "", false)
def tyJ6 : Nat → FieldType := fun k => match k with
  | _ => .int
theorem nmJ6 : ∀ a, a < 0 → ∀ b, b < 0 → a ≠ b → (TJ6 a).2.1 ≠ (TJ6 b).2.1 := by decide +kernel
theorem tyJ6_ok : ∀ k, k < 0 → parseFieldDescriptor (TJ6 k).2.2.1 = some (tyJ6 k) := by decide +kernel
abbrev cJ6_bitCount_0f7a4 : ByteArray := prog_9_method_49_code
def yJ6_bitCount_0f7a4 : MethodName := ⟨RJ6, "bitCount", "(I)I"⟩
def RJ9 : String := "java/lang/Math"
def TJ9 : u_T := fun k => match k with
  | _ => ("", "", "", false)
def tyJ9 : Nat → FieldType := fun k => match k with
  | _ => .int
theorem nmJ9 : ∀ a, a < 0 → ∀ b, b < 0 → a ≠ b → (TJ9 a).2.1 ≠ (TJ9 b).2.1 := by decide +kernel
theorem tyJ9_ok : ∀ k, k < 0 → parseFieldDescriptor (TJ9 k).2.2.1 = some (tyJ9 k) := by decide +kernel
abbrev cJ9_floorDiv_7cf53 : ByteArray := prog_10_method_47_code
def yJ9_floorDiv_7cf53 : MethodName := ⟨RJ9, "floorDiv", "(II)I"⟩
abbrev cJ9_abs_0f7a4 : ByteArray := prog_10_method_59_code
def yJ9_abs_0f7a4 : MethodName := ⟨RJ9, "abs", "(I)I"⟩
abbrev cJ9_max_7cf53 : ByteArray := prog_10_method_65_code
def yJ9_max_7cf53 : MethodName := ⟨RJ9, "max", "(II)I"⟩
abbrev cJ9_min_7cf53 : ByteArray := prog_10_method_69_code
def yJ9_min_7cf53 : MethodName := ⟨RJ9, "min", "(II)I"⟩
def RJ0 : String := "java/lang/String"
def TJ0 : u_T := fun k => match k with
  | _ => ("", "", "", false)
def tyJ0 : Nat → FieldType := fun k => match k with
  | _ => .int
theorem nmJ0 : ∀ a, a < 0 → ∀ b, b < 0 → a ≠ b → (TJ0 a).2.1 ≠ (TJ0 b).2.1 := by decide +kernel
theorem tyJ0_ok : ∀ k, k < 0 → parseFieldDescriptor (TJ0 k).2.2.1 = some (tyJ0 k) := by decide +kernel
abbrev cJ0_length_8abf5 : ByteArray := prog_11_method_54_code
def yJ0_length_8abf5 : MethodName := ⟨RJ0, "length", "()I"⟩
abbrev cJ0_charAt_5068e : ByteArray := prog_11_method_56_code
def yJ0_charAt_5068e : MethodName := ⟨RJ0, "charAt", "(I)C"⟩
abbrev cJ0_coder_7d493 : ByteArray := prog_11_method_152_code
def yJ0_coder_7d493 : MethodName := ⟨RJ0, "coder", "()B"⟩
abbrev cJ0_isLatin1_aae02 : ByteArray := prog_11_method_154_code
def yJ0_isLatin1_aae02 : MethodName := ⟨RJ0, "isLatin1", "()Z"⟩
abbrev cJ0_checkIndex_df160 : ByteArray := prog_11_method_155_code
def yJ0_checkIndex_df160 : MethodName := ⟨RJ0, "checkIndex", "(II)V"⟩
def RJ1 : String := "java/lang/StringLatin1"
def TJ1 : u_T := fun k => match k with
  | _ => ("", "", "", false)
def tyJ1 : Nat → FieldType := fun k => match k with
  | _ => .int
theorem nmJ1 : ∀ a, a < 0 → ∀ b, b < 0 → a ≠ b → (TJ1 a).2.1 ≠ (TJ1 b).2.1 := by decide +kernel
theorem tyJ1_ok : ∀ k, k < 0 → parseFieldDescriptor (TJ1 k).2.2.1 = some (tyJ1 k) := by decide +kernel
abbrev cJ1_charAt_3b067 : ByteArray := prog_12_method_2_code
def yJ1_charAt_3b067 : MethodName := ⟨RJ1, "charAt", "([BI)C"⟩
def RJ2 : String := "java/lang/StringUTF16"
def TJ2 : u_T := fun k => match k with
  | _ => ("", "", "", false)
def tyJ2 : Nat → FieldType := fun k => match k with
  | _ => .int
theorem nmJ2 : ∀ a, a < 0 → ∀ b, b < 0 → a ≠ b → (TJ2 a).2.1 ≠ (TJ2 b).2.1 := by decide +kernel
theorem tyJ2_ok : ∀ k, k < 0 → parseFieldDescriptor (TJ2 k).2.2.1 = some (tyJ2 k) := by decide +kernel
abbrev cJ2_getChar_3b067 : ByteArray := prog_13_method_5_code
def yJ2_getChar_3b067 : MethodName := ⟨RJ2, "getChar", "([BI)C"⟩
abbrev cJ2_length_9d52b : ByteArray := prog_13_method_6_code
def yJ2_length_9d52b : MethodName := ⟨RJ2, "length", "([B)I"⟩
abbrev cJ2_charAt_3b067 : ByteArray := prog_13_method_83_code
def yJ2_charAt_3b067 : MethodName := ⟨RJ2, "charAt", "([BI)C"⟩
abbrev cJ2_checkIndex_2214a : ByteArray := prog_13_method_91_code
def yJ2_checkIndex_2214a : MethodName := ⟨RJ2, "checkIndex", "(I[B)V"⟩
def RJ3 : String := "jdk/internal/util/Preconditions"
def TJ3 : u_T := fun k => match k with
  | _ => ("", "", "", false)
def tyJ3 : Nat → FieldType := fun k => match k with
  | _ => .int
theorem nmJ3 : ∀ a, a < 0 → ∀ b, b < 0 → a ≠ b → (TJ3 a).2.1 ≠ (TJ3 b).2.1 := by decide +kernel
theorem tyJ3_ok : ∀ k, k < 0 → parseFieldDescriptor (TJ3 k).2.2.1 = some (tyJ3 k) := by decide +kernel
abbrev cJ3_checkIndex_8e157 : ByteArray := prog_14_method_11_code
def yJ3_checkIndex_8e157 : MethodName := ⟨RJ3, "checkIndex", "(IILjava/util/function/BiFunction;)I"⟩
def RL : String := "OilRoundLaw"
abbrev cL_law : ByteArray := code
def yL_law : MethodName := ⟨RL, "law", "([I)Z"⟩
abbrev vwCl : List vw_C := [(RX0, TX0, 2), (RX1, TX1, 15), (RX2, TX2, 3), (RX3, TX3, 12), (RX4, TX4, 7), (RX5, TX5, 14), (RX6, TX6, 45)]
end
section
def oWL : List Cond := lw_tbl.filter goodWord
theorem oWL_t {n : Nat} {w : Cond} (h : tables_1[n]? = some w) (hg : goodWord w = true) : w ∈ oWL := List.mem_filter.mpr ⟨List.mem_append_right _ (List.mem_of_getElem? h), hg⟩
theorem oWL_p {n : Nat} {w : Cond} (h : (k2_sels lw_privs)[n]? = some w) (hg : goodWord w = true) : w ∈ oWL := List.mem_filter.mpr ⟨List.mem_append_left _ (List.mem_of_getElem? h), hg⟩
theorem u_lay_good (C : String) (T : u_T) (k : Nat) : goodWord (u_lay C T k) = true := by
  unfold u_lay
  split <;> rfl
theorem oWL_lays {C : String} {T : u_T} {N b : Nat} (h : ∀ k, k < N → tables_1[b + 2 * k]? = some (u_lay C T k)) : ∀ w ∈ u_ws C T N, w ∈ oWL := by
  intro w hw
  obtain ⟨k, hk, rfl⟩ := List.mem_map.mp hw
  exact oWL_t (h k (List.mem_range.mp hk)) (u_lay_good C T k)
theorem inlX0 : ∀ w ∈ u_ws RX0 TX0 2, w ∈ oWL := oWL_lays (b := 107) (by decide +kernel)
theorem inlX1 : ∀ w ∈ u_ws RX1 TX1 15, w ∈ oWL := oWL_lays (b := 220) (by decide +kernel)
theorem inlX2 : ∀ w ∈ u_ws RX2 TX2 3, w ∈ oWL := oWL_lays (b := 178) (by decide +kernel)
theorem inlX3 : ∀ w ∈ u_ws RX3 TX3 12, w ∈ oWL := oWL_lays (b := 73) (by decide +kernel)
theorem inlX4 : ∀ w ∈ u_ws RX4 TX4 7, w ∈ oWL := oWL_lays (b := 37) (by decide +kernel)
theorem inlX5 : ∀ w ∈ u_ws RX5 TX5 14, w ∈ oWL := oWL_lays (b := 126) (by decide +kernel)
theorem inlX6 : ∀ w ∈ u_ws RX6 TX6 45, w ∈ oWL := oWL_lays (b := 720) (by decide +kernel)
/-! the abstract machine: ids for the cells that the run makes (id i lies at the address B + i), a heap by numbers, and the judgement of a state of a method -/
abbrev oG : Type := Nat × va_G × (Nat → ClassId) × (Nat → Nat) × (Nat → Nat)
abbrev oH : Type := Nat × (Nat → Nat → Int32) × (Nat → Nat → Int64) × (Nat → Nat → Option Nat)
def hI (h : oH) (a k : Nat) : Int32 := h.2.1 a k
def hJ (h : oH) (a k : Nat) : Int64 := h.2.2.1 a k
def hR (h : oH) (a k : Nat) : Option Nat := h.2.2.2 a k
def sI (h : oH) (a k : Nat) (v : Int32) : oH := (h.1, fun x y => if x = a ∧ y = k then v else h.2.1 x y, h.2.2.1, h.2.2.2)
def sJ (h : oH) (a k : Nat) (v : Int64) : oH := (h.1, h.2.1, fun x y => if x = a ∧ y = k then v else h.2.2.1 x y, h.2.2.2)
def sR (h : oH) (a k : Nat) (v : Option Nat) : oH := (h.1, h.2.1, h.2.2.1, fun x y => if x = a ∧ y = k then v else h.2.2.2 x y)
def hAl (h : oH) : oH := (h.1 + 1, fun x y => if x = h.1 then 0 else h.2.1 x y, fun x y => if x = h.1 then 0 else h.2.2.1 x y, fun x y => if x = h.1 then none else h.2.2.2 x y)
theorem hI_sI (h : oH) (a k x y : Nat) (v : Int32) : hI (sI h a k v) x y = if x = a ∧ y = k then v else hI h x y := rfl
theorem hI_sJ (h : oH) (a k x y : Nat) (v : Int64) : hI (sJ h a k v) x y = hI h x y := rfl
theorem hI_sR (h : oH) (a k x y : Nat) (v : Option Nat) : hI (sR h a k v) x y = hI h x y := rfl
theorem hJ_sI (h : oH) (a k x y : Nat) (v : Int32) : hJ (sI h a k v) x y = hJ h x y := rfl
theorem hJ_sJ (h : oH) (a k x y : Nat) (v : Int64) : hJ (sJ h a k v) x y = if x = a ∧ y = k then v else hJ h x y := rfl
theorem hJ_sR (h : oH) (a k x y : Nat) (v : Option Nat) : hJ (sR h a k v) x y = hJ h x y := rfl
theorem hR_sI (h : oH) (a k x y : Nat) (v : Int32) : hR (sI h a k v) x y = hR h x y := rfl
theorem hR_sJ (h : oH) (a k x y : Nat) (v : Int64) : hR (sJ h a k v) x y = hR h x y := rfl
theorem hR_sR (h : oH) (a k x y : Nat) (v : Option Nat) : hR (sR h a k v) x y = if x = a ∧ y = k then v else hR h x y := rfl
theorem n_sI (h : oH) (a k : Nat) (v : Int32) : (sI h a k v).1 = h.1 := rfl
theorem n_sJ (h : oH) (a k : Nat) (v : Int64) : (sJ h a k v).1 = h.1 := rfl
theorem n_sR (h : oH) (a k : Nat) (v : Option Nat) : (sR h a k v).1 = h.1 := rfl
/-- kinds of cells: (0, class), (1, length) ints, (2, length) bytes, (3, length) booleans, (4, length) houses -/
def tgT : List (Nat × Nat) := [(0, 5), (4, 24), (0, 4), (1, 8), (1, 9), (1, 9), (1, 8), (1, 2304), (0, 3), (2, 300), (0, 0), (1, 16), (0, 6), (1, 24), (1, 24), (1, 24), (1, 96), (1, 24), (1, 24), (1, 24), (1, 24), (3, 24), (1, 24), (1, 24), (1, 24), (1, 24), (1, 24), (1, 8), (1, 2048), (1, 300), (1, 40), (1, 40), (1, 40), (1, 40), (1, 16)]
def tg (i : Nat) : Nat × Nat := if i < 35 then tgT.getD i (0, 0) else if i % 2 = 1 then (0, 1) else (0, 2)
theorem tg_house (i : Nat) : tg (35 + 2 * i) = (0, 1) := by
  unfold tg
  rw [if_neg (by omega), if_pos (by omega)]
theorem tg_plan (i : Nat) : tg (36 + 2 * i) = (0, 2) := by
  unfold tg
  rw [if_neg (by omega), if_neg (by omega)]
def nf (ci : Nat) : Nat := [2, 15, 3, 12, 7, 14, 45].getD ci 0
def tyC (ci : Nat) : Nat → FieldType := match ci with
  | 0 => tyX0
  | 1 => tyX1
  | 2 => tyX2
  | 3 => tyX3
  | 4 => tyX4
  | 5 => tyX5
  | _ => tyX6
def szT (t : Nat × Nat) : Nat := if t.1 = 0 then nf t.2 else t.2
def sl : Nat → Nat
  | 0 => 0
  | n + 1 => sl n + szT (tg n)
theorem sl_mono {a b : Nat} (h : a ≤ b) : sl a ≤ sl b := by
  induction b with
  | zero => rw [Nat.le_zero.mp h]; exact Nat.le_refl _
  | succ b ih =>
    by_cases hb : a = b + 1
    · rw [hb]; exact Nat.le_refl _
    · exact Nat.le_trans (ih (by omega)) (Nat.le_add_right _ _)
/-- a value as the machine has it: ids as addresses; a text's id rides on a float -/
def oV (G : oG) : Value → Value
  | .ref i => .ref (G.1 + i)
  | .float k => .ref (if k.toNat < 100 then G.2.2.2.1 k.toNat else G.2.2.2.2 (k.toNat - 100))
  | v => v
def fv (G : oG) (ci : Nat) (h : oH) (a k : Nat) : Value := match tyC ci k with
  | .long => .long (hJ h a k)
  | .object _ => va_rf ((hR h a k).map (fun i => G.1 + i))
  | .array _ => va_rf ((hR h a k).map (fun i => G.1 + i))
  | _ => .int (hI h a k)
def oEk (G : oG) (h : oH) (a : Nat) (t : Nat × Nat) : va_E := match t with
  | (0, ci) => .inr (ci, (List.range (nf ci)).map (fv G ci h a))
  | (1, n) => .inl (G.2.2.1 0, n, .inl (hI h a))
  | (2, n) => .inl (G.2.2.1 1, n, .inl (hI h a))
  | (3, n) => .inl (G.2.2.1 2, n, .inl (hI h a))
  | (_, n) => .inl (G.2.2.1 3, n, .inr (.inr (.inr (.inr (fun j => (hR h a j).map (fun i => G.1 + i))))))
def oE (G : oG) (h : oH) (a : Nat) : va_E := oEk G h a (tg a)
def oWs (G : oG) (h : oH) : va_W := (List.range h.1).map (fun a => (G.1 + a, oE G h a))
def oTys (G : oG) : List (ClassId × FieldType) := [(G.2.2.1 0, .int), (G.2.2.1 1, .byte), (G.2.2.1 2, .boolean), (G.2.2.1 3, .object "OilRound$House")]
theorem oWs_get {G : oG} {h : oH} {a : Nat} (ha : a < h.1) : (oWs G h)[a]? = some (G.1 + a, oE G h a) := by
  unfold oWs
  rw [List.getElem?_map, List.getElem?_range ha]
  rfl
theorem oWs_len (G : oG) (h : oH) : (oWs G h).length = h.1 := by
  unfold oWs
  rw [List.length_map, List.length_range]
theorem oWs_set {G : oG} {h h' : oH} {a : Nat} (hn : h'.1 = h.1) (ho : ∀ j, j ≠ a → oE G h' j = oE G h j) {e : va_E} (he : e = oE G h' a) : (oWs G h).set a (G.1 + a, e) = oWs G h' := by
  subst he
  apply List.ext_getElem?
  intro j
  by_cases hj : j < h.1
  · rw [oWs_get (h := h') (by rw [hn]; exact hj)]
    by_cases hja : a = j
    · subst hja
      rw [List.getElem?_set_self (by rw [oWs_len]; exact hj)]
    · rw [List.getElem?_set_ne hja, oWs_get hj, ho j (fun q => hja q.symm)]
  · rw [List.getElem?_eq_none (by rw [List.length_set, oWs_len]; omega), List.getElem?_eq_none (by rw [oWs_len, hn]; omega)]
theorem oE_ext {G : oG} {h h' : oH} {a : Nat} (hi : ∀ k, hI h' a k = hI h a k) (hj : ∀ k, hJ h' a k = hJ h a k) (hr : ∀ k, hR h' a k = hR h a k) : oE G h' a = oE G h a := by
  have e1 : hI h' a = hI h a := funext hi
  have e2 : ∀ ci, fv G ci h' a = fv G ci h a := fun ci => funext fun k => by simp only [fv, hi, hj, hr]
  unfold oE
  generalize tg a = t
  unfold oEk
  split <;> simp only [e1, e2, hr]
theorem oWs_push {G : oG} {h : oH} {e : va_E} (he : e = oE G (hAl h) h.1) : oWs G h ++ [(G.1 + h.1, e)] = oWs G (hAl h) := by
  subst he
  unfold oWs
  show _ = (List.range (h.1 + 1)).map _
  rw [List.range_succ, List.map_append]
  congr 1
  refine List.map_congr_left fun a ha => ?_
  have hl : a ≠ h.1 := Nat.ne_of_lt (List.mem_range.mp ha)
  rw [oE_ext (G := G) (h := h) (h' := hAl h) (a := a) (fun k => if_neg hl) (fun k => if_neg hl) (fun k => if_neg hl)]
theorem oWs_D (G : oG) (h : oH) : va_D (fun q => G.1 ≤ q) (oWs G h) := by
  have key : ∀ (i : Nat) (p : Nat × va_E), (oWs G h)[i]? = some p → p.1 = G.1 + i := by
    intro i p hp
    have hl : i < h.1 := by
      have := (List.getElem?_eq_some_iff.mp hp).1
      rwa [oWs_len] at this
    rw [oWs_get hl] at hp
    cases hp
    rfl
  refine ⟨fun i j p q hp hq he => ?_, fun k q hq => ?_⟩
  · have e1 := key i p hp
    have e2 := key j q hq
    omega
  · have e1 := key k q hq
    show G.1 ≤ q.1
    omega
/-- what the texts and the JDK's statics are -/
def oX (G : oG) (U : State) (H : Heap) : Prop :=
  vk_S 4 [5, 3, 3, 4] [[104, 111, 117, 115, 101], [100, 97, 121], [99, 97, 112], [112, 97, 105, 100]] G.2.2.2.1 G.2.2.2.2 (fun q => G.1 ≤ q) U H ∧
  va_Z "java/lang/String" "COMPACT_STRINGS" "Z" (.int 1) (fun q => G.1 ≤ q) U H ∧
  va_Zq "jdk/internal/util/Preconditions" "SIOOBE_FORMATTER" "Ljava/util/function/BiFunction;" (fun q => G.1 ≤ q) U H
def oNestL : List (String × Nat × MethodName) := [("OilRound", 17, ⟨"OilRound$Route", "<init>", "()V"⟩), ("OilRound", 24, ⟨"OilRound$PlanText", "<init>", "()V"⟩), ("OilRound", 31, ⟨"OilRound$Asks", "<init>", "()V"⟩), ("OilRound$House", 11, ⟨"OilRound$Plan", "<init>", "()V"⟩), ("OilRound$Route", 50, ⟨"OilRound", "houseIn", "([LOilRound$House;I)LOilRound$House;"⟩), ("OilRound$Route", 78, ⟨"OilRound", "isOutside", "(III)Z"⟩), ("OilRound$PlanText", 79, ⟨"OilRound", "houseIn", "([LOilRound$House;I)LOilRound$House;"⟩)]
def oXR (G : oG) (U : State) : Prop := vk_R RX3 104 "house" (G.2.2.2.1 0) U ∧ vk_R RX3 110 "day" (G.2.2.2.1 1) U ∧ vk_R RX3 112 "cap" (G.2.2.2.1 2) U ∧ vk_R RX3 114 "paid" (G.2.2.2.1 3) U ∧ va_AO "OilRound$House" U ∧ ∀ q ∈ oNestL, va_Nw (.methodLinkNest q.1 q.2.1 q.2.2 "OilRound") U
theorem oX.moved {G : oG} {u U : State} {H : Heap} (hvm : u.vm.Alike U.vm) (h : oX G u H) : oX G U H := by
  obtain ⟨h1, h2, h3⟩ := h
  exact ⟨h1.moved hvm, h2.moved hvm, h3.moved hvm⟩
theorem oX.kept {G : oG} {U : State} {H H1 : Heap} (h : oX G U H) (hq : ∀ a : Nat, a < H.size → ¬ G.1 ≤ a → H1[a]? = H[a]?) : oX G U H1 := by
  obtain ⟨h1, h2, h3⟩ := h
  exact ⟨h1.kept hq, h2.kept hq, h3.kept hq⟩
theorem oXR.same {G : oG} {u U : State} (hv : U.vm = u.vm) (h : oXR G u) : oXR G U := ⟨h.1.same hv, h.2.1.same hv, h.2.2.1.same hv, h.2.2.2.1.same hv, va_AO.moved (by rw [hv]; exact Vm.Alike.refl _) h.2.2.2.2.1, fun q hq => va_Nw.same rfl hv.symm (h.2.2.2.2.2 q hq)⟩
theorem oXR.warm {G : oG} {s U : State} (hW : s.WarmedH U.vm) (h : oXR G s) : oXR G U := ⟨h.1.warm hW, h.2.1.warm hW, h.2.2.1.warm hW, h.2.2.2.1.warm hW, va_AO.moved hW.alike h.2.2.2.2.1, fun q hq => va_Nw.warmM hW (h.2.2.2.2.2 q hq)⟩
/-- a whole state of the world holds the abstract heap -/
def oRep (G : oG) (h : oH) (U : State) : Prop := va_P G.2.1 vwCl (oWs G h) U.heap ∧ U.heap.size = G.1 + h.1 ∧ va_K G.2.1 vwCl (oTys G) U ∧ oX G U U.heap ∧ oXR G U
theorem oRep.calling {G : oG} {h : oH} {U : State} (q : oRep G h U) (g : JFrame) (mk : MethodId) (a : Array Value) : oRep G h (U.calling g mk a) := by
  obtain ⟨h1, h2, h3, h4, h5⟩ := q
  exact ⟨h1, h2, va_K.moved (u := U) (U := U.calling g mk a) (Vm.Alike.refl U.vm) h3, oX.moved (u := U) (U := U.calling g mk a) (Vm.Alike.refl U.vm) h4, oXR.same (u := U) (U := U.calling g mk a) rfl h5⟩
/-- a method: its name, code, locals, answer; the frames and the words of locals that it needs -/
abbrev oM : Type := MethodName × ByteArray × Nat × Option FieldType × Nat × Nat
def oW (M : oM) : List Cond := Cond.code M.1 M.2.1 M.2.2.1 M.2.2.2.1 :: oWL
def oR (M : oM) (mc ms : Nat) : Room := { frames := M.2.2.2.2.1, cells := mc, slots := ms, locals := M.2.2.2.2.2 }
/-- what stays through a method's walk -/
def oC (G : oG) (M : oM) (n0 nF : Nat) (p : Program) (l : Launch) (R : Room) (s : State) (m : MethodId) (args : Array Value) (meth : Method) (c : Code) : Prop :=
  p.tables.exec = Jvm.exec ∧ c.code = M.2.1 ∧ meth.sig.returnType = M.2.2.2.1 ∧ c.maxLocals = M.2.2.1 ∧ s.vm.findClass M.1.cls = some m.cls ∧ (∀ w ∈ oWL, w.before args s = true) ∧ meth.locks = false ∧ meth.name = M.1.name ∧
  va_K G.2.1 vwCl (oTys G) s ∧ oX G s s.heap ∧ oXR G s ∧ G.1 ≤ s.heap.size ∧ M.2.2.2.2.1 ≤ R.frames ∧ M.2.2.2.2.2 ≤ R.locals ∧ nF - n0 ≤ R.cells ∧ sl nF - sl n0 ≤ R.slots
def oL (G : oG) (ls : Array Slot) (n : Nat) (L : List (Option Value)) : Prop := ls.size = n ∧ lv_wf ls ∧ ∀ (i : Nat) (v : Value), L[i]? = some (some v) → ls[i]? = some (.val (oV G v))
def oS (G : oG) (M : oM) (p : Program) (l : Launch) (e : Env) (R : Room) (s : State) (m : MethodId) (args : Array Value) (below : List Frame) (meth : Method) (c : Code) (Z : State → Prop) (n0 : Nat) (pc : Nat) (L : List (Option Value)) (S : List Value) (h : oH) : Prop :=
  ∀ (H : Heap) (locs : List Loc) (ls : Array Slot), va_S (fun q => G.1 ≤ q) s.heap H locs → va_P G.2.1 vwCl (oWs G h) H → H.size = G.1 + h.1 → n0 ≤ h.1 → oL G ls M.2.2.1 L →
    W p l e R s m args below meth c H locs (h.1 - n0) (sl h.1 - sl n0) Z (F0 m pc ls (S.map (oV G)))
/-- the list of pairs of what the locals hold -/
def oLs (G : oG) (L : List (Option Value)) : List (Nat × Value) := (List.range L.length).filterMap (fun i => match L[i]? with
  | some (some v) => some (i, oV G v)
  | _ => none)
theorem oLs_mem {G : oG} {L : List (Option Value)} {i : Nat} {w : Value} : (i, w) ∈ oLs G L ↔ ∃ v, L[i]? = some (some v) ∧ w = oV G v := by
  unfold oLs
  constructor
  · intro h
    obtain ⟨j, -, hj⟩ := List.mem_filterMap.mp h
    split at hj
    · rename_i v hv
      cases hj
      exact ⟨v, hv, rfl⟩
    · cases hj
  · rintro ⟨v, hv, rfl⟩
    refine List.mem_filterMap.mpr ⟨i, List.mem_range.mpr (List.getElem?_eq_some_iff.mp hv).1, ?_⟩
    rw [hv]
theorem oL.has {G : oG} {ls : Array Slot} {n : Nat} {L : List (Option Value)} (h : oL G ls n L) : lv_has ls n (oLs G L) := ⟨h.1, h.2.1, fun q hq => by
  obtain ⟨v, h1, h2⟩ := oLs_mem.mp hq
  rw [h2]
  exact h.2.2 _ _ h1⟩
/-- storing a value of one slot: no value of two slots may end there -/
def oOk (L : List (Option Value)) (i : Nat) : Bool := match i with
  | 0 => true
  | j + 1 => match L[j]? with
    | some (some v) => v.category == 1
    | _ => true
theorem oV_cat (G : oG) (v : Value) (h : v.category = 1) : (oV G v).category = 1 := by cases v <;> first | rfl | (simp [Value.category] at h)
theorem oL.store1 {G : oG} {ls' : Array Slot} {n i : Nat} {v : Value} {L : List (Option Value)} (hok : oOk L i = true)
    (h : lv_has ls' n ((i, oV G v) :: (oLs G L).filter (fun q => !(q.1 == i) && !(q.1 + 1 == i && q.2.category == 2)))) : oL G ls' n (L.set i (some v)) := by
  refine ⟨h.1, h.2.1, fun j w hj => ?_⟩
  by_cases hji : i = j
  · subst hji
    have hl : i < L.length := by
      have := (List.getElem?_eq_some_iff.mp hj).1
      rwa [List.length_set] at this
    rw [List.getElem?_set_self hl] at hj
    cases hj
    exact h.2.2 _ List.mem_cons_self
  · rw [List.getElem?_set_ne hji] at hj
    refine h.2.2 (j, oV G w) (List.mem_cons_of_mem _ (List.mem_filter.mpr ⟨oLs_mem.mpr ⟨w, hj, rfl⟩, ?_⟩))
    simp only [Bool.and_eq_true, Bool.not_eq_true', beq_eq_false_iff_ne, ne_eq, Bool.and_eq_false_iff]
    refine ⟨fun q => hji q.symm, ?_⟩
    by_cases hq : j + 1 = i
    · subst hq
      right
      simp only [oOk, hj, beq_iff_eq] at hok
      rw [oV_cat G w hok]
      decide
    · exact Or.inl hq
theorem oL.store2 {G : oG} {ls' : Array Slot} {n i : Nat} {v : Value} {L : List (Option Value)} (hok : oOk L i = true)
    (h : lv_has ls' n ((i, oV G v) :: (oLs G L).filter (fun q => !(q.1 == i) && (!(q.1 == i + 1) && !(q.1 + 1 == i && q.2.category == 2))))) : oL G ls' n ((L.set i (some v)).set (i + 1) none) := by
  refine ⟨h.1, h.2.1, fun j w hj => ?_⟩
  by_cases hj1 : i + 1 = j
  · subst hj1
    have hl : i + 1 < (L.set i (some v)).length := by
      have := (List.getElem?_eq_some_iff.mp hj).1
      rwa [List.length_set] at this
    rw [List.getElem?_set_self hl] at hj
    cases hj
  · rw [List.getElem?_set_ne hj1] at hj
    by_cases hji : i = j
    · subst hji
      have hl : i < L.length := by
        have := (List.getElem?_eq_some_iff.mp hj).1
        rwa [List.length_set] at this
      rw [List.getElem?_set_self hl] at hj
      cases hj
      exact h.2.2 _ List.mem_cons_self
    · rw [List.getElem?_set_ne hji] at hj
      refine h.2.2 (j, oV G w) (List.mem_cons_of_mem _ (List.mem_filter.mpr ⟨oLs_mem.mpr ⟨w, hj, rfl⟩, ?_⟩))
      simp only [Bool.and_eq_true, Bool.not_eq_true', beq_eq_false_iff_ne, ne_eq, Bool.and_eq_false_iff]
      refine ⟨fun q => hji q.symm, fun q => hj1 q.symm, ?_⟩
      by_cases hq : j + 1 = i
      · subst hq
        right
        simp only [oOk, hj, beq_iff_eq] at hok
        rw [oV_cat G w hok]
        decide
      · exact Or.inl hq

def oIsR : Value → Bool
  | .ref _ => true
  | .null => true
  | .float _ => true
  | _ => false
section ORULES
variable {G : oG} {M : oM} {p : Program} {l : Launch} {e : Env} {R : Room} {s : State} {m : MethodId} {args : Array Value} {below : List Frame} {meth : Method} {c : Code} {Z : State → Prop} {n0 nF pc : Nat} {L : List (Option Value)} {S : List Value} {h : oH}
theorem r_iadd (C : oC G M n0 nF p l R s m args meth c) {x y : Int32} (hd : decode M.2.1 pc = .ok (.iadd, 1)) (k : oS G M p l e R s m args below meth c Z n0 (pc + 1) L (.int (x + y) :: S) h) : oS G M p l e R s m args below meth c Z n0 pc L (.int y :: .int x :: S) h := fun H locs ls a b z n q => lv_iadd C.1 C.2.1 hd (k H locs ls a b z n q)
theorem r_isub (C : oC G M n0 nF p l R s m args meth c) {x y : Int32} (hd : decode M.2.1 pc = .ok (.isub, 1)) (k : oS G M p l e R s m args below meth c Z n0 (pc + 1) L (.int (x - y) :: S) h) : oS G M p l e R s m args below meth c Z n0 pc L (.int y :: .int x :: S) h := fun H locs ls a b z n q => lv_isub C.1 C.2.1 hd (k H locs ls a b z n q)
theorem r_imul (C : oC G M n0 nF p l R s m args meth c) {x y : Int32} (hd : decode M.2.1 pc = .ok (.imul, 1)) (k : oS G M p l e R s m args below meth c Z n0 (pc + 1) L (.int (x * y) :: S) h) : oS G M p l e R s m args below meth c Z n0 pc L (.int y :: .int x :: S) h := fun H locs ls a b z n q => lv_imul C.1 C.2.1 hd (k H locs ls a b z n q)
theorem r_iand (C : oC G M n0 nF p l R s m args meth c) {x y : Int32} (hd : decode M.2.1 pc = .ok (.iand, 1)) (k : oS G M p l e R s m args below meth c Z n0 (pc + 1) L (.int (x &&& y) :: S) h) : oS G M p l e R s m args below meth c Z n0 pc L (.int y :: .int x :: S) h := fun H locs ls a b z n q => lv_iand C.1 C.2.1 hd (k H locs ls a b z n q)
theorem r_ior (C : oC G M n0 nF p l R s m args meth c) {x y : Int32} (hd : decode M.2.1 pc = .ok (.ior, 1)) (k : oS G M p l e R s m args below meth c Z n0 (pc + 1) L (.int (x ||| y) :: S) h) : oS G M p l e R s m args below meth c Z n0 pc L (.int y :: .int x :: S) h := fun H locs ls a b z n q => lv_ior C.1 C.2.1 hd (k H locs ls a b z n q)
theorem r_ixor (C : oC G M n0 nF p l R s m args meth c) {x y : Int32} (hd : decode M.2.1 pc = .ok (.ixor, 1)) (k : oS G M p l e R s m args below meth c Z n0 (pc + 1) L (.int (x ^^^ y) :: S) h) : oS G M p l e R s m args below meth c Z n0 pc L (.int y :: .int x :: S) h := fun H locs ls a b z n q => lv_ixor C.1 C.2.1 hd (k H locs ls a b z n q)
theorem r_ishl (C : oC G M n0 nF p l R s m args meth c) {x y : Int32} (hd : decode M.2.1 pc = .ok (.ishl, 1)) (k : oS G M p l e R s m args below meth c Z n0 (pc + 1) L (.int (x <<< (y &&& 31)) :: S) h) : oS G M p l e R s m args below meth c Z n0 pc L (.int y :: .int x :: S) h := fun H locs ls a b z n q => lv_ishl C.1 C.2.1 hd (k H locs ls a b z n q)
theorem r_ishr (C : oC G M n0 nF p l R s m args meth c) {x y : Int32} (hd : decode M.2.1 pc = .ok (.ishr, 1)) (k : oS G M p l e R s m args below meth c Z n0 (pc + 1) L (.int (x >>> (y &&& 31)) :: S) h) : oS G M p l e R s m args below meth c Z n0 pc L (.int y :: .int x :: S) h := fun H locs ls a b z n q => lv_ishr C.1 C.2.1 hd (k H locs ls a b z n q)
theorem r_idiv (C : oC G M n0 nF p l R s m args meth c) {x y : Int32} (hne : ¬ y = 0) (hd : decode M.2.1 pc = .ok (.idiv, 1)) (k : oS G M p l e R s m args below meth c Z n0 (pc + 1) L (.int (x / y) :: S) h) : oS G M p l e R s m args below meth c Z n0 pc L (.int y :: .int x :: S) h := fun H locs ls a b z n q => lv_idiv C.1 C.2.1 hd hne (k H locs ls a b z n q)
theorem r_ineg (C : oC G M n0 nF p l R s m args meth c) {x : Int32} (hd : decode M.2.1 pc = .ok (.ineg, 1)) (k : oS G M p l e R s m args below meth c Z n0 (pc + 1) L (.int (-x) :: S) h) : oS G M p l e R s m args below meth c Z n0 pc L (.int x :: S) h := fun H locs ls a b z n q => lv_ineg C.1 C.2.1 hd (k H locs ls a b z n q)
theorem r_ladd (C : oC G M n0 nF p l R s m args meth c) {x y : Int64} (hd : decode M.2.1 pc = .ok (.ladd, 1)) (k : oS G M p l e R s m args below meth c Z n0 (pc + 1) L (.long (x + y) :: S) h) : oS G M p l e R s m args below meth c Z n0 pc L (.long y :: .long x :: S) h := fun H locs ls a b z n q => lv_ladd C.1 C.2.1 hd (k H locs ls a b z n q)
theorem r_land (C : oC G M n0 nF p l R s m args meth c) {x y : Int64} (hd : decode M.2.1 pc = .ok (.land, 1)) (k : oS G M p l e R s m args below meth c Z n0 (pc + 1) L (.long (x &&& y) :: S) h) : oS G M p l e R s m args below meth c Z n0 pc L (.long y :: .long x :: S) h := fun H locs ls a b z n q => lv_land C.1 C.2.1 hd (k H locs ls a b z n q)
theorem r_lor (C : oC G M n0 nF p l R s m args meth c) {x y : Int64} (hd : decode M.2.1 pc = .ok (.lor, 1)) (k : oS G M p l e R s m args below meth c Z n0 (pc + 1) L (.long (x ||| y) :: S) h) : oS G M p l e R s m args below meth c Z n0 pc L (.long y :: .long x :: S) h := fun H locs ls a b z n q => lv_lor C.1 C.2.1 hd (k H locs ls a b z n q)
theorem r_lcmp (C : oC G M n0 nF p l R s m args meth c) {x y : Int64} (hd : decode M.2.1 pc = .ok (.lcmp, 1)) (k : oS G M p l e R s m args below meth c Z n0 (pc + 1) L (.int (lg_cmp x y) :: S) h) : oS G M p l e R s m args below meth c Z n0 pc L (.long y :: .long x :: S) h := fun H locs ls a b z n q => W.lcmp C.1 C.2.1 hd (k H locs ls a b z n q)
theorem r_lshl (C : oC G M n0 nF p l R s m args meth c) {x : Int64} {y : Int32} (hd : decode M.2.1 pc = .ok (.lshl, 1)) (k : oS G M p l e R s m args below meth c Z n0 (pc + 1) L (.long (x <<< (y.toInt64 &&& 63)) :: S) h) : oS G M p l e R s m args below meth c Z n0 pc L (.int y :: .long x :: S) h := fun H locs ls a b z n q => lv_lshl C.1 C.2.1 hd rfl (k H locs ls a b z n q)
theorem r_lshr (C : oC G M n0 nF p l R s m args meth c) {x : Int64} {y : Int32} (hd : decode M.2.1 pc = .ok (.lshr, 1)) (k : oS G M p l e R s m args below meth c Z n0 (pc + 1) L (.long (x >>> (y.toInt64 &&& 63)) :: S) h) : oS G M p l e R s m args below meth c Z n0 pc L (.int y :: .long x :: S) h := fun H locs ls a b z n q => lv_lshr C.1 C.2.1 hd rfl (k H locs ls a b z n q)
theorem r_iushr (C : oC G M n0 nF p l R s m args meth c) {x y : Int32} (hd : decode M.2.1 pc = .ok (.iushr, 1)) (k : oS G M p l e R s m args below meth c Z n0 (pc + 1) L (.int ((x.toUInt32 >>> (y.toUInt32 &&& Int32.toUInt32 31)).toInt32) :: S) h) : oS G M p l e R s m args below meth c Z n0 pc L (.int y :: .int x :: S) h := fun H locs ls a b z n q => lv_iushr C.1 C.2.1 hd rfl (k H locs ls a b z n q)
theorem r_i2l (C : oC G M n0 nF p l R s m args meth c) {x : Int32} (hd : decode M.2.1 pc = .ok (.i2l, 1)) (k : oS G M p l e R s m args below meth c Z n0 (pc + 1) L (.long (x.toInt64) :: S) h) : oS G M p l e R s m args below meth c Z n0 pc L (.int x :: S) h := fun H locs ls a b z n q => lv_i2l C.1 C.2.1 hd rfl (k H locs ls a b z n q)
theorem r_l2i (C : oC G M n0 nF p l R s m args meth c) {x : Int64} (hd : decode M.2.1 pc = .ok (.l2i, 1)) (k : oS G M p l e R s m args below meth c Z n0 (pc + 1) L (.int (x.toInt32) :: S) h) : oS G M p l e R s m args below meth c Z n0 pc L (.long x :: S) h := fun H locs ls a b z n q => lv_l2i C.1 C.2.1 hd rfl (k H locs ls a b z n q)
theorem r_i2b (C : oC G M n0 nF p l R s m args meth c) {x : Int32} (hd : decode M.2.1 pc = .ok (.i2b, 1)) (k : oS G M p l e R s m args below meth c Z n0 (pc + 1) L (.int (x.toInt8.toInt32) :: S) h) : oS G M p l e R s m args below meth c Z n0 pc L (.int x :: S) h := fun H locs ls a b z n q => lv_i2b C.1 C.2.1 hd rfl (k H locs ls a b z n q)
theorem r_i2c (C : oC G M n0 nF p l R s m args meth c) {x : Int32} (hd : decode M.2.1 pc = .ok (.i2c, 1)) (k : oS G M p l e R s m args below meth c Z n0 (pc + 1) L (.int ((x.toUInt32 % 65536).toInt32) :: S) h) : oS G M p l e R s m args below meth c Z n0 pc L (.int x :: S) h := fun H locs ls a b z n q => lv_i2c C.1 C.2.1 hd rfl (k H locs ls a b z n q)
theorem r_iconst (C : oC G M n0 nF p l R s m args meth c) {n : Int} (hd : decode M.2.1 pc = .ok (.iconst n, 1)) (k : oS G M p l e R s m args below meth c Z n0 (pc + 1) L (.int (Int32.ofInt n) :: S) h) : oS G M p l e R s m args below meth c Z n0 pc L S h := fun H locs ls a b z n q => lv_iconst C.1 C.2.1 hd rfl (k H locs ls a b z n q)
theorem r_iconstv (C : oC G M n0 nF p l R s m args meth c) {n : Int} (v : Int32) (hv : Int32.ofInt n = v) (hd : decode M.2.1 pc = .ok (.iconst n, 1)) (k : oS G M p l e R s m args below meth c Z n0 (pc + 1) L (.int v :: S) h) : oS G M p l e R s m args below meth c Z n0 pc L S h := fun H locs ls a b z n q => lv_iconst C.1 C.2.1 hd hv (k H locs ls a b z n q)
theorem r_bipush (C : oC G M n0 nF p l R s m args meth c) {n : Int} (v : Int32) (hv : (Int8.ofInt n).toInt32 = v) (hd : decode M.2.1 pc = .ok (.bipush n, 2)) (k : oS G M p l e R s m args below meth c Z n0 (pc + 2) L (.int v :: S) h) : oS G M p l e R s m args below meth c Z n0 pc L S h := fun H locs ls a b z n q => lv_bipush C.1 C.2.1 hd hv (k H locs ls a b z n q)
theorem r_sipush (C : oC G M n0 nF p l R s m args meth c) {n : Int} (v : Int32) (hv : (Int16.ofInt n).toInt32 = v) (hd : decode M.2.1 pc = .ok (.sipush n, 3)) (k : oS G M p l e R s m args below meth c Z n0 (pc + 3) L (.int v :: S) h) : oS G M p l e R s m args below meth c Z n0 pc L S h := fun H locs ls a b z n q => lv_sipush C.1 C.2.1 hd hv (k H locs ls a b z n q)
theorem r_lconst (C : oC G M n0 nF p l R s m args meth c) {n : Fin 2} (v : Int64) (hv : Int64.ofNat (n : Nat) = v) (hd : decode M.2.1 pc = .ok (.lconst n, 1)) (k : oS G M p l e R s m args below meth c Z n0 (pc + 1) L (.long v :: S) h) : oS G M p l e R s m args below meth c Z n0 pc L S h := fun H locs ls a b z n q => lv_lconst C.1 C.2.1 hd hv (k H locs ls a b z n q)
theorem r_ldc (C : oC G M n0 nF p l R s m args meth c) {index : Nat} (v : Int32) (hw : Cond.constant M.1.cls index v ∈ oWL) (hd : decode M.2.1 pc = .ok (.ldc index, 2)) (k : oS G M p l e R s m args below meth c Z n0 (pc + 2) L (.int v :: S) h) : oS G M p l e R s m args below meth c Z n0 pc L S h := fun H locs ls a b z n q => lv_ldc C.1 C.2.1 C.2.2.2.2.1 (C.2.2.2.2.2.1 _ hw) hd (k H locs ls a b z n q)
theorem r_ldcw (C : oC G M n0 nF p l R s m args meth c) {index : Nat} (v : Int32) (hw : Cond.constant M.1.cls index v ∈ oWL) (hd : decode M.2.1 pc = .ok (.ldc_w index, 3)) (k : oS G M p l e R s m args below meth c Z n0 (pc + 3) L (.int v :: S) h) : oS G M p l e R s m args below meth c Z n0 pc L S h := fun H locs ls a b z n q => lv_ldcw C.1 C.2.1 C.2.2.2.2.1 (C.2.2.2.2.2.1 _ hw) hd (k H locs ls a b z n q)
theorem r_ldc2 (C : oC G M n0 nF p l R s m args meth c) {index : Nat} (v : Int64) (hw : Cond.constantLong M.1.cls index v ∈ oWL) (hd : decode M.2.1 pc = .ok (.ldc2_w index, 3)) (k : oS G M p l e R s m args below meth c Z n0 (pc + 3) L (.long v :: S) h) : oS G M p l e R s m args below meth c Z n0 pc L S h := fun H locs ls a b z n q => lv_ldc2 C.1 C.2.1 C.2.2.2.2.1 (C.2.2.2.2.2.1 _ hw) hd (k H locs ls a b z n q)
theorem r_null (C : oC G M n0 nF p l R s m args meth c)  (hd : decode M.2.1 pc = .ok (.aconst_null, 1)) (k : oS G M p l e R s m args below meth c Z n0 (pc + 1) L (.null :: S) h) : oS G M p l e R s m args below meth c Z n0 pc L S h := fun H locs ls a b z n q => lv_null C.1 C.2.1 hd (k H locs ls a b z n q)
theorem r_iload_n (C : oC G M n0 nF p l R s m args meth c) {i : Fin 4} {x : Int32} (hl : L[(i : Nat)]? = some (some (.int x))) (hd : decode M.2.1 pc = .ok (.iload_n i, 1)) (k : oS G M p l e R s m args below meth c Z n0 (pc + 1) L (.int x :: S) h) : oS G M p l e R s m args below meth c Z n0 pc L S h := fun H locs ls a b z n q => lv_iload_n C.1 C.2.1 hd rfl (q.2.2 _ _ hl) (k H locs ls a b z n q)
theorem r_iload (C : oC G M n0 nF p l R s m args meth c) {i : Nat} {x : Int32} (hl : L[i]? = some (some (.int x))) (hd : decode M.2.1 pc = .ok (.iload i, 2)) (k : oS G M p l e R s m args below meth c Z n0 (pc + 2) L (.int x :: S) h) : oS G M p l e R s m args below meth c Z n0 pc L S h := fun H locs ls a b z n q => lv_iload C.1 C.2.1 hd (q.2.2 _ _ hl) (k H locs ls a b z n q)
theorem r_lload_n (C : oC G M n0 nF p l R s m args meth c) {i : Fin 4} {x : Int64} (hl : L[(i : Nat)]? = some (some (.long x))) (hd : decode M.2.1 pc = .ok (.lload_n i, 1)) (k : oS G M p l e R s m args below meth c Z n0 (pc + 1) L (.long x :: S) h) : oS G M p l e R s m args below meth c Z n0 pc L S h := fun H locs ls a b z n q => lv_lload_n C.1 C.2.1 hd rfl (q.2.2 _ _ hl) (k H locs ls a b z n q)
theorem r_lload (C : oC G M n0 nF p l R s m args meth c) {i : Nat} {x : Int64} (hl : L[i]? = some (some (.long x))) (hd : decode M.2.1 pc = .ok (.lload i, 2)) (k : oS G M p l e R s m args below meth c Z n0 (pc + 2) L (.long x :: S) h) : oS G M p l e R s m args below meth c Z n0 pc L S h := fun H locs ls a b z n q => lv_lload C.1 C.2.1 hd (q.2.2 _ _ hl) (k H locs ls a b z n q)
theorem r_aload_n (C : oC G M n0 nF p l R s m args meth c) {i : Fin 4} {v : Value} (hl : L[(i : Nat)]? = some (some v)) (hv : oIsR v = true) (hd : decode M.2.1 pc = .ok (.aload_n i, 1)) (k : oS G M p l e R s m args below meth c Z n0 (pc + 1) L (v :: S) h) : oS G M p l e R s m args below meth c Z n0 pc L S h := fun H locs ls a b z n q => by
  have k1 := k H locs ls a b z n q
  have h1 := q.2.2 _ _ hl
  cases v <;> first | exact absurd hv Bool.false_ne_true | exact lv_aload_n C.1 C.2.1 hd rfl h1 k1 | exact lv_aload_nN C.1 C.2.1 hd rfl h1 k1
theorem r_aload (C : oC G M n0 nF p l R s m args meth c) {i : Nat} {v : Value} (hl : L[i]? = some (some v)) (hv : oIsR v = true) (hd : decode M.2.1 pc = .ok (.aload i, 2)) (k : oS G M p l e R s m args below meth c Z n0 (pc + 2) L (v :: S) h) : oS G M p l e R s m args below meth c Z n0 pc L S h := fun H locs ls a b z n q => by
  have k1 := k H locs ls a b z n q
  have h1 := q.2.2 _ _ hl
  cases v <;> first | exact absurd hv Bool.false_ne_true | exact lv_aload C.1 C.2.1 hd h1 k1 | exact lv_aloadN C.1 C.2.1 hd h1 k1
theorem r_istore_n (C : oC G M n0 nF p l R s m args meth c) {i : Fin 4} {x : Int32} (ho : oOk L i = true) (hn : (i : Nat) < M.2.2.1) (hd : decode M.2.1 pc = .ok (.istore_n i, 1)) (k : oS G M p l e R s m args below meth c Z n0 (pc + 1) (L.set i (some (.int x))) S h) : oS G M p l e R s m args below meth c Z n0 pc L (.int x :: S) h := fun H locs ls a b z n q => lv_istore_n C.1 C.2.1 hd rfl q.has hn rfl (fun ls1 q1 => k H locs ls1 a b z n (oL.store1 ho q1))
theorem r_istore (C : oC G M n0 nF p l R s m args meth c) {i : Nat} {x : Int32} (ho : oOk L i = true) (hn : i < M.2.2.1) (hd : decode M.2.1 pc = .ok (.istore i, 2)) (k : oS G M p l e R s m args below meth c Z n0 (pc + 2) (L.set i (some (.int x))) S h) : oS G M p l e R s m args below meth c Z n0 pc L (.int x :: S) h := fun H locs ls a b z n q => lv_istore C.1 C.2.1 hd q.has hn rfl (fun ls1 q1 => k H locs ls1 a b z n (oL.store1 ho q1))
theorem r_lstore_n (C : oC G M n0 nF p l R s m args meth c) {i : Fin 4} {x : Int64} (ho : oOk L i = true) (hn : (i : Nat) + 1 < M.2.2.1) (hd : decode M.2.1 pc = .ok (.lstore_n i, 1)) (k : oS G M p l e R s m args below meth c Z n0 (pc + 1) ((L.set i (some (.long x))).set (i + 1) none) S h) : oS G M p l e R s m args below meth c Z n0 pc L (.long x :: S) h := fun H locs ls a b z n q => lv_lstore_n C.1 C.2.1 hd rfl q.has hn rfl (fun ls1 q1 => k H locs ls1 a b z n (oL.store2 ho q1))
theorem r_astore_n (C : oC G M n0 nF p l R s m args meth c) {i : Fin 4} {v : Value} (hv : oIsR v = true) (ho : oOk L i = true) (hn : (i : Nat) < M.2.2.1) (hd : decode M.2.1 pc = .ok (.astore_n i, 1)) (k : oS G M p l e R s m args below meth c Z n0 (pc + 1) (L.set i (some v)) S h) : oS G M p l e R s m args below meth c Z n0 pc L (v :: S) h := fun H locs ls a b z n q => by
  cases v <;> first | exact absurd hv Bool.false_ne_true | exact lv_astore_n C.1 C.2.1 hd rfl q.has hn rfl (fun ls1 q1 => k H locs ls1 a b z n (oL.store1 ho q1)) | exact lv_astore_nN C.1 C.2.1 hd rfl q.has hn rfl (fun ls1 q1 => k H locs ls1 a b z n (oL.store1 ho q1))
theorem r_astore (C : oC G M n0 nF p l R s m args meth c) {i : Nat} {v : Value} (hv : oIsR v = true) (ho : oOk L i = true) (hn : i < M.2.2.1) (hd : decode M.2.1 pc = .ok (.astore i, 2)) (k : oS G M p l e R s m args below meth c Z n0 (pc + 2) (L.set i (some v)) S h) : oS G M p l e R s m args below meth c Z n0 pc L (v :: S) h := fun H locs ls a b z n q => by
  cases v <;> first | exact absurd hv Bool.false_ne_true | exact lv_astore C.1 C.2.1 hd q.has hn rfl (fun ls1 q1 => k H locs ls1 a b z n (oL.store1 ho q1)) | exact lv_astoreN C.1 C.2.1 hd q.has hn rfl (fun ls1 q1 => k H locs ls1 a b z n (oL.store1 ho q1))
theorem r_iinc (C : oC G M n0 nF p l R s m args meth c) {i : Nat} {d : Int} {x : Int32} (hl : L[i]? = some (some (.int x))) (ho : oOk L i = true) (hn : i < M.2.2.1) (hd : decode M.2.1 pc = .ok (.iinc i d, 3)) (k : oS G M p l e R s m args below meth c Z n0 (pc + 3) (L.set i (some (.int (x + Int32.ofInt d)))) S h) : oS G M p l e R s m args below meth c Z n0 pc L S h := fun H locs ls a b z n q => by
  obtain ⟨j, hj⟩ := List.getElem?_of_mem (oLs_mem (G := G).mpr ⟨_, hl, rfl⟩)
  exact lv_iinc C.1 C.2.1 hd q.has hj rfl hn rfl (fun ls1 q1 => k H locs ls1 a b z n (oL.store1 ho q1))
theorem r_dup (C : oC G M n0 nF p l R s m args meth c) {v : Value} (c1 : v.category = 1) (hd : decode M.2.1 pc = .ok (.dup, 1)) (k : oS G M p l e R s m args below meth c Z n0 (pc + 1) L (v :: v :: S) h) : oS G M p l e R s m args below meth c Z n0 pc L (v :: S) h := fun H locs ls a b z n q => lv_dup C.1 C.2.1 hd (oV_cat G _ c1) (k H locs ls a b z n q)
theorem r_pop (C : oC G M n0 nF p l R s m args meth c) {v : Value} (c1 : v.category = 1) (hd : decode M.2.1 pc = .ok (.pop, 1)) (k : oS G M p l e R s m args below meth c Z n0 (pc + 1) L S h) : oS G M p l e R s m args below meth c Z n0 pc L (v :: S) h := fun H locs ls a b z n q => lv_pop C.1 C.2.1 hd (oV_cat G _ c1) (k H locs ls a b z n q)
theorem r_dup2 (C : oC G M n0 nF p l R s m args meth c) {v w : Value} (c1 : v.category = 1) (c2 : w.category = 1) (hd : decode M.2.1 pc = .ok (.dup2, 1)) (k : oS G M p l e R s m args below meth c Z n0 (pc + 1) L (v :: w :: v :: w :: S) h) : oS G M p l e R s m args below meth c Z n0 pc L (v :: w :: S) h := fun H locs ls a b z n q => lv_dup2_11 C.1 C.2.1 hd (oV_cat G _ c1) (oV_cat G _ c2) (k H locs ls a b z n q)
theorem r_if_eq (C : oC G M n0 nF p l R s m args meth c) {x : Int32} {off : Int} (tgt : Nat) (ht : (pc : Int) + off = (tgt : Int)) (hd : decode M.2.1 pc = .ok (.ifCond .eq off, 3)) (kt : x = 0 → oS G M p l e R s m args below meth c Z n0 tgt L S h) (kf : ¬ x = 0 → oS G M p l e R s m args below meth c Z n0 (pc + 3) L S h) : oS G M p l e R s m args below meth c Z n0 pc L (.int x :: S) h := fun H locs ls a b z n q => lv_if_eq C.1 C.2.1 hd ht (fun j => kt j H locs ls a b z n q) (fun j => kf j H locs ls a b z n q)
theorem r_icmp_eq (C : oC G M n0 nF p l R s m args meth c) {x y : Int32} {off : Int} (tgt : Nat) (ht : (pc : Int) + off = (tgt : Int)) (hd : decode M.2.1 pc = .ok (.if_icmp .eq off, 3)) (kt : x = y → oS G M p l e R s m args below meth c Z n0 tgt L S h) (kf : ¬ x = y → oS G M p l e R s m args below meth c Z n0 (pc + 3) L S h) : oS G M p l e R s m args below meth c Z n0 pc L (.int y :: .int x :: S) h := fun H locs ls a b z n q => lv_icmp_eq C.1 C.2.1 hd ht (fun j => kt j H locs ls a b z n q) (fun j => kf j H locs ls a b z n q)
theorem r_if_ne (C : oC G M n0 nF p l R s m args meth c) {x : Int32} {off : Int} (tgt : Nat) (ht : (pc : Int) + off = (tgt : Int)) (hd : decode M.2.1 pc = .ok (.ifCond .ne off, 3)) (kt : ¬ x = 0 → oS G M p l e R s m args below meth c Z n0 tgt L S h) (kf : x = 0 → oS G M p l e R s m args below meth c Z n0 (pc + 3) L S h) : oS G M p l e R s m args below meth c Z n0 pc L (.int x :: S) h := fun H locs ls a b z n q => lv_if_ne C.1 C.2.1 hd ht (fun j => kt j H locs ls a b z n q) (fun j => kf j H locs ls a b z n q)
theorem r_icmp_ne (C : oC G M n0 nF p l R s m args meth c) {x y : Int32} {off : Int} (tgt : Nat) (ht : (pc : Int) + off = (tgt : Int)) (hd : decode M.2.1 pc = .ok (.if_icmp .ne off, 3)) (kt : ¬ x = y → oS G M p l e R s m args below meth c Z n0 tgt L S h) (kf : x = y → oS G M p l e R s m args below meth c Z n0 (pc + 3) L S h) : oS G M p l e R s m args below meth c Z n0 pc L (.int y :: .int x :: S) h := fun H locs ls a b z n q => lv_icmp_ne C.1 C.2.1 hd ht (fun j => kt j H locs ls a b z n q) (fun j => kf j H locs ls a b z n q)
theorem r_if_lt (C : oC G M n0 nF p l R s m args meth c) {x : Int32} {off : Int} (tgt : Nat) (ht : (pc : Int) + off = (tgt : Int)) (hd : decode M.2.1 pc = .ok (.ifCond .lt off, 3)) (kt : x < 0 → oS G M p l e R s m args below meth c Z n0 tgt L S h) (kf : ¬ x < 0 → oS G M p l e R s m args below meth c Z n0 (pc + 3) L S h) : oS G M p l e R s m args below meth c Z n0 pc L (.int x :: S) h := fun H locs ls a b z n q => lv_if_lt C.1 C.2.1 hd ht (fun j => kt j H locs ls a b z n q) (fun j => kf j H locs ls a b z n q)
theorem r_icmp_lt (C : oC G M n0 nF p l R s m args meth c) {x y : Int32} {off : Int} (tgt : Nat) (ht : (pc : Int) + off = (tgt : Int)) (hd : decode M.2.1 pc = .ok (.if_icmp .lt off, 3)) (kt : x < y → oS G M p l e R s m args below meth c Z n0 tgt L S h) (kf : ¬ x < y → oS G M p l e R s m args below meth c Z n0 (pc + 3) L S h) : oS G M p l e R s m args below meth c Z n0 pc L (.int y :: .int x :: S) h := fun H locs ls a b z n q => lv_icmp_lt C.1 C.2.1 hd ht (fun j => kt j H locs ls a b z n q) (fun j => kf j H locs ls a b z n q)
theorem r_if_ge (C : oC G M n0 nF p l R s m args meth c) {x : Int32} {off : Int} (tgt : Nat) (ht : (pc : Int) + off = (tgt : Int)) (hd : decode M.2.1 pc = .ok (.ifCond .ge off, 3)) (kt : 0 ≤ x → oS G M p l e R s m args below meth c Z n0 tgt L S h) (kf : ¬ 0 ≤ x → oS G M p l e R s m args below meth c Z n0 (pc + 3) L S h) : oS G M p l e R s m args below meth c Z n0 pc L (.int x :: S) h := fun H locs ls a b z n q => lv_if_ge C.1 C.2.1 hd ht (fun j => kt j H locs ls a b z n q) (fun j => kf j H locs ls a b z n q)
theorem r_icmp_ge (C : oC G M n0 nF p l R s m args meth c) {x y : Int32} {off : Int} (tgt : Nat) (ht : (pc : Int) + off = (tgt : Int)) (hd : decode M.2.1 pc = .ok (.if_icmp .ge off, 3)) (kt : y ≤ x → oS G M p l e R s m args below meth c Z n0 tgt L S h) (kf : ¬ y ≤ x → oS G M p l e R s m args below meth c Z n0 (pc + 3) L S h) : oS G M p l e R s m args below meth c Z n0 pc L (.int y :: .int x :: S) h := fun H locs ls a b z n q => lv_icmp_ge C.1 C.2.1 hd ht (fun j => kt j H locs ls a b z n q) (fun j => kf j H locs ls a b z n q)
theorem r_if_gt (C : oC G M n0 nF p l R s m args meth c) {x : Int32} {off : Int} (tgt : Nat) (ht : (pc : Int) + off = (tgt : Int)) (hd : decode M.2.1 pc = .ok (.ifCond .gt off, 3)) (kt : 0 < x → oS G M p l e R s m args below meth c Z n0 tgt L S h) (kf : ¬ 0 < x → oS G M p l e R s m args below meth c Z n0 (pc + 3) L S h) : oS G M p l e R s m args below meth c Z n0 pc L (.int x :: S) h := fun H locs ls a b z n q => lv_if_gt C.1 C.2.1 hd ht (fun j => kt j H locs ls a b z n q) (fun j => kf j H locs ls a b z n q)
theorem r_icmp_gt (C : oC G M n0 nF p l R s m args meth c) {x y : Int32} {off : Int} (tgt : Nat) (ht : (pc : Int) + off = (tgt : Int)) (hd : decode M.2.1 pc = .ok (.if_icmp .gt off, 3)) (kt : y < x → oS G M p l e R s m args below meth c Z n0 tgt L S h) (kf : ¬ y < x → oS G M p l e R s m args below meth c Z n0 (pc + 3) L S h) : oS G M p l e R s m args below meth c Z n0 pc L (.int y :: .int x :: S) h := fun H locs ls a b z n q => lv_icmp_gt C.1 C.2.1 hd ht (fun j => kt j H locs ls a b z n q) (fun j => kf j H locs ls a b z n q)
theorem r_if_le (C : oC G M n0 nF p l R s m args meth c) {x : Int32} {off : Int} (tgt : Nat) (ht : (pc : Int) + off = (tgt : Int)) (hd : decode M.2.1 pc = .ok (.ifCond .le off, 3)) (kt : x ≤ 0 → oS G M p l e R s m args below meth c Z n0 tgt L S h) (kf : ¬ x ≤ 0 → oS G M p l e R s m args below meth c Z n0 (pc + 3) L S h) : oS G M p l e R s m args below meth c Z n0 pc L (.int x :: S) h := fun H locs ls a b z n q => lv_if_le C.1 C.2.1 hd ht (fun j => kt j H locs ls a b z n q) (fun j => kf j H locs ls a b z n q)
theorem r_icmp_le (C : oC G M n0 nF p l R s m args meth c) {x y : Int32} {off : Int} (tgt : Nat) (ht : (pc : Int) + off = (tgt : Int)) (hd : decode M.2.1 pc = .ok (.if_icmp .le off, 3)) (kt : x ≤ y → oS G M p l e R s m args below meth c Z n0 tgt L S h) (kf : ¬ x ≤ y → oS G M p l e R s m args below meth c Z n0 (pc + 3) L S h) : oS G M p l e R s m args below meth c Z n0 pc L (.int y :: .int x :: S) h := fun H locs ls a b z n q => lv_icmp_le C.1 C.2.1 hd ht (fun j => kt j H locs ls a b z n q) (fun j => kf j H locs ls a b z n q)
theorem r_goto (C : oC G M n0 nF p l R s m args meth c) {off : Int} (tgt : Nat) (ht : (pc : Int) + off = (tgt : Int)) (hd : decode M.2.1 pc = .ok (.goto off, 3)) (k : oS G M p l e R s m args below meth c Z n0 tgt L S h) : oS G M p l e R s m args below meth c Z n0 pc L S h := fun H locs ls a b z n q => lv_goto C.1 C.2.1 hd ht (k H locs ls a b z n q)
theorem r_ifnull (C : oC G M n0 nF p l R s m args meth c) {i : Nat} {off : Int} (hd : decode M.2.1 pc = .ok (.ifnull off, 3)) (k : oS G M p l e R s m args below meth c Z n0 (pc + 3) L S h) : oS G M p l e R s m args below meth c Z n0 pc L (.ref i :: S) h := fun H locs ls a b z n q => lv_ifnull C.1 C.2.1 hd (k H locs ls a b z n q)
theorem r_ifnullN (C : oC G M n0 nF p l R s m args meth c) {off : Int} (tgt : Nat) (ht : (pc : Int) + off = (tgt : Int)) (hd : decode M.2.1 pc = .ok (.ifnull off, 3)) (k : oS G M p l e R s m args below meth c Z n0 tgt L S h) : oS G M p l e R s m args below meth c Z n0 pc L (.null :: S) h := fun H locs ls a b z n q => lv_ifnullN C.1 C.2.1 hd ht (k H locs ls a b z n q)
theorem r_ifnonnull (C : oC G M n0 nF p l R s m args meth c) {i : Nat} {off : Int} (tgt : Nat) (ht : (pc : Int) + off = (tgt : Int)) (hd : decode M.2.1 pc = .ok (.ifnonnull off, 3)) (k : oS G M p l e R s m args below meth c Z n0 tgt L S h) : oS G M p l e R s m args below meth c Z n0 pc L (.ref i :: S) h := fun H locs ls a b z n q => lv_ifnonnull C.1 C.2.1 hd ht (k H locs ls a b z n q)
theorem r_ifnonnullN (C : oC G M n0 nF p l R s m args meth c) {off : Int} (hd : decode M.2.1 pc = .ok (.ifnonnull off, 3)) (k : oS G M p l e R s m args below meth c Z n0 (pc + 3) L S h) : oS G M p l e R s m args below meth c Z n0 pc L (.null :: S) h := fun H locs ls a b z n q => lv_ifnonnullN C.1 C.2.1 hd (k H locs ls a b z n q)
theorem r_tableOut (C : oC G M n0 nF p l R s m args meth c) {dflt lo hi : Int} {offs : Array Int} {len : Nat} {x : Int32} (tgt : Nat) (hx : x.toInt < lo ∨ hi < x.toInt) (ht : (pc : Int) + dflt = (tgt : Int)) (hd : decode M.2.1 pc = .ok (.tableswitch dflt lo hi offs, len)) (k : oS G M p l e R s m args below meth c Z n0 tgt L S h) : oS G M p l e R s m args below meth c Z n0 pc L (.int x :: S) h := fun H locs ls a b z n q => lv_tableOut C.1 C.2.1 hd hx ht (k H locs ls a b z n q)
theorem r_tableIn (C : oC G M n0 nF p l R s m args meth c) {dflt lo hi : Int} {offs : Array Int} {len : Nat} {x : Int32} {off : Int} (tgt : Nat) (h1 : ¬ x.toInt < lo) (h2 : ¬ hi < x.toInt) (ho : offs[(x.toInt - lo).toNat]? = some off) (ht : (pc : Int) + off = (tgt : Int)) (hd : decode M.2.1 pc = .ok (.tableswitch dflt lo hi offs, len)) (k : oS G M p l e R s m args below meth c Z n0 tgt L S h) : oS G M p l e R s m args below meth c Z n0 pc L (.int x :: S) h := fun H locs ls a b z n q => lv_tableIn C.1 C.2.1 hd h1 h2 ho ht (k H locs ls a b z n q)
theorem r_lookup (C : oC G M n0 nF p l R s m args meth c) {dflt : Int} {ps : Array (Int × Int)} {len : Nat} {x : Int32} {off : Int} (tgt : Nat) (hp : (ps.toList.zip (ps.toList.drop 1)).all (fun (a, next) => a.1 < next.1) = true) (ho : Op.lookupswitch.offset ps.toList dflt x.toInt = off) (ht : (pc : Int) + off = (tgt : Int)) (hd : decode M.2.1 pc = .ok (.lookupswitch dflt ps, len)) (k : oS G M p l e R s m args below meth c Z n0 tgt L S h) : oS G M p l e R s m args below meth c Z n0 pc L (.int x :: S) h := fun H locs ls a b z n q => lv_lookup C.1 C.2.1 hd hp ho ht (k H locs ls a b z n q)
end ORULES
end
section
/-! fields -/
def clQ (ci : Nat) : vw_C := match ci with
  | 0 => (RX0, TX0, 2)
  | 1 => (RX1, TX1, 15)
  | 2 => (RX2, TX2, 3)
  | 3 => (RX3, TX3, 12)
  | 4 => (RX4, TX4, 7)
  | 5 => (RX5, TX5, 14)
  | _ => (RX6, TX6, 45)
theorem c7 {P : Nat → Prop} (h0 : P 0) (h1 : P 1) (h2 : P 2) (h3 : P 3) (h4 : P 4) (h5 : P 5) (h6 : P 6) {i : Nat} (h : i < 7) : P i := by
  match i, h with
  | 0, _ => exact h0
  | 1, _ => exact h1
  | 2, _ => exact h2
  | 3, _ => exact h3
  | 4, _ => exact h4
  | 5, _ => exact h5
  | 6, _ => exact h6
  | n + 7, h => omega
theorem clQ_ok {ci : Nat} (h : ci < 7) : vwCl[ci]? = some (clQ ci) := c7 (P := fun ci => vwCl[ci]? = some (clQ ci)) rfl rfl rfl rfl rfl rfl rfl h
theorem clQ_nf {ci : Nat} (h : ci < 7) : (clQ ci).2.2 = nf ci := c7 (P := fun ci => (clQ ci).2.2 = nf ci) rfl rfl rfl rfl rfl rfl rfl h
theorem clQ_in {ci : Nat} (h : ci < 7) : ∀ w ∈ u_ws (clQ ci).1 (clQ ci).2.1 (clQ ci).2.2, w ∈ oWL := c7 (P := fun ci => ∀ w ∈ u_ws (clQ ci).1 (clQ ci).2.1 (clQ ci).2.2, w ∈ oWL) inlX0 inlX1 inlX2 inlX3 inlX4 inlX5 inlX6 h
theorem clQ_ty {ci : Nat} (h : ci < 7) : ∀ k, k < (clQ ci).2.2 → parseFieldDescriptor ((clQ ci).2.1 k).2.2.1 = some (tyC ci k) := c7 (P := fun ci => ∀ k, k < (clQ ci).2.2 → parseFieldDescriptor ((clQ ci).2.1 k).2.2.1 = some (tyC ci k)) tyX0_ok tyX1_ok tyX2_ok tyX3_ok tyX4_ok tyX5_ok tyX6_ok h
theorem clQ_nm {ci : Nat} (h : ci < 7) : ∀ a, a < (clQ ci).2.2 → ∀ b, b < (clQ ci).2.2 → a ≠ b → ((clQ ci).2.1 a).2.1 ≠ ((clQ ci).2.1 b).2.1 := c7 (P := fun ci => ∀ a, a < (clQ ci).2.2 → ∀ b, b < (clQ ci).2.2 → a ≠ b → ((clQ ci).2.1 a).2.1 ≠ ((clQ ci).2.1 b).2.1) nmX0 nmX1 nmX2 nmX3 nmX4 nmX5 nmX6 h
def oFL (own : String) (idx ci k : Nat) (ty : FieldType) : Prop := ci < 7 ∧ k < nf ci ∧ tyC ci k = ty ∧ Cond.fieldLink own idx ((clQ ci).2.1 k).1 ((clQ ci).2.1 k).2.1 ((clQ ci).2.1 k).2.2.1 ∈ oWL
def tyR : FieldType → Bool
  | .object _ => true
  | .array _ => true
  | _ => false
theorem fv_int {G : oG} {ci : Nat} {h : oH} {a k : Nat} (hty : tyC ci k = .int) : fv G ci h a k = .int (hI h a k) := by unfold fv; rw [hty]
theorem fv_bool {G : oG} {ci : Nat} {h : oH} {a k : Nat} (hty : tyC ci k = .boolean) : fv G ci h a k = .int (hI h a k) := by unfold fv; rw [hty]
theorem fv_long {G : oG} {ci : Nat} {h : oH} {a k : Nat} (hty : tyC ci k = .long) : fv G ci h a k = .long (hJ h a k) := by unfold fv; rw [hty]
theorem fv_ref {G : oG} {ci : Nat} {h : oH} {a k : Nat} {ty : FieldType} (hty : tyC ci k = ty) (hr : tyR ty = true) : fv G ci h a k = va_rf ((hR h a k).map (fun i => G.1 + i)) := by
  unfold fv
  rw [hty]
  cases ty <;> first | rfl | exact absurd hr Bool.false_ne_true
theorem oE_obj {G : oG} {h : oH} {a ci : Nat} (ht : tg a = (0, ci)) : oE G h a = .inr (ci, (List.range (nf ci)).map (fv G ci h a)) := by unfold oE; rw [ht]; rfl
theorem fs_get {G : oG} {ci : Nat} {h : oH} {a k : Nat} (hk : k < nf ci) : ((List.range (nf ci)).map (fv G ci h a))[k]? = some (fv G ci h a k) := by rw [List.getElem?_map, List.getElem?_range hk]; rfl
theorem fs_set {G : oG} {ci : Nat} {h h' : oH} {a k : Nat} {v : Value} (hk : k < nf ci) (hv : fv G ci h' a k = v) (ho : ∀ j, j ≠ k → fv G ci h' a j = fv G ci h a j) : ((List.range (nf ci)).map (fv G ci h a)).set k v = (List.range (nf ci)).map (fv G ci h' a) := by
  apply List.ext_getElem?
  intro j
  by_cases hj : j < nf ci
  · rw [fs_get (h := h') hj]
    by_cases hjk : k = j
    · subst hjk
      rw [List.getElem?_set_self (by rw [List.length_map, List.length_range]; exact hk), hv]
    · rw [List.getElem?_set_ne hjk, fs_get hj, ho j (fun q => hjk q.symm)]
  · rw [List.getElem?_eq_none (by rw [List.length_set, List.length_map, List.length_range]; omega), List.getElem?_eq_none (by rw [List.length_map, List.length_range]; omega)]
theorem oV_rf (G : oG) (r : Option Nat) : oV G (va_rf r) = va_rf (r.map (fun i => G.1 + i)) := by cases r <;> rfl
def oQ (G : oG) (r : Option Value) (h : oH) : Array Value → State → Outcome → State → Prop := fun _ st o t => (o = .returned (r.map (oV G)) ∧ oRep G h t) ∧ va_F (fun q => G.1 ≤ q) st t
def oZ (G : oG) (below : List Frame) (args : Array Value) (s : State) (n0 nF : Nat) (r : Option Value) (h : oH) : State → Prop := MQ below (oQ G r h) args s (nF - n0) (sl nF - sl n0) (fun q => G.1 ≤ q)
/-- a method's contract: from the heap h with these arguments it answers r and leaves the heap h' -/
def oSp (G : oG) (M : oM) (as : List Value) (h : oH) (r : Option Value) (h' : oH) : Prop := h.1 ≤ h'.1 ∧ ∀ l : Launch, Met l M.1 (oW M) (oR M (h'.1 - h.1) (sl h'.1 - sl h.1)) (fun v U => v = (as.map (oV G)).toArray ∧ oRep G h U) (oQ G r h') (h'.1 - h.1) (sl h'.1 - sl h.1) (fun q => G.1 ≤ q)
def oFl : List Value → List (Option Value)
  | [] => []
  | v :: vs => if v.category = 2 then some v :: none :: oFl vs else some v :: oFl vs
def oEnt (as : List Value) (n : Nat) : List (Option Value) := oFl as ++ List.replicate (n - (oFl as).length) none
theorem oV_cat2 (G : oG) (v : Value) : (oV G v).category = v.category := by cases v <;> rfl
theorem oFl_len (G : oG) : ∀ as : List Value, (lg_sl (as.map (oV G))).length = (oFl as).length
  | [] => rfl
  | v :: vs => by
    have ih := oFl_len G vs
    simp only [lg_sl, List.map_cons, List.flatMap_cons, List.length_append, oV_cat2, oFl] at ih ⊢
    by_cases hc : v.category = 2
    · rw [if_pos hc, if_pos hc]
      simp only [List.length_cons, List.length_nil]
      omega
    · rw [if_neg hc, if_neg hc]
      simp only [List.length_cons, List.length_nil]
      omega
theorem oFl_args (G : oG) : ∀ (as : List Value) (b i : Nat) (v : Value), (oFl as)[i]? = some (some v) → (b + i, oV G v) ∈ lv_args b (as.map (oV G))
  | [], _, i, v, h => by simp [oFl] at h
  | w :: ws, b, i, v, h => by
    simp only [oFl] at h
    simp only [List.map_cons, lv_args, oV_cat2]
    by_cases hc : w.category = 2
    · rw [if_pos hc] at h ⊢
      match i, h with
      | 0, h =>
        simp only [List.getElem?_cons_zero, Option.some.injEq] at h
        rw [h]
        exact List.mem_cons_self
      | 1, h => simp at h
      | i + 2, h =>
        simp only [List.getElem?_cons_succ] at h
        have := oFl_args G ws (b + 2) i v h
        rw [show b + (i + 2) = b + 2 + i by omega]
        exact List.mem_cons_of_mem _ this
    · rw [if_neg hc] at h ⊢
      match i, h with
      | 0, h =>
        simp only [List.getElem?_cons_zero, Option.some.injEq] at h
        rw [h]
        exact List.mem_cons_self
      | i + 1, h =>
        simp only [List.getElem?_cons_succ] at h
        have := oFl_args G ws (b + 1) i v h
        rw [show b + (i + 1) = b + 1 + i by omega]
        exact List.mem_cons_of_mem _ this
theorem oEnt_ok (G : oG) {as : List Value} {n : Nat} (hn : (oFl as).length ≤ n) : oL G ((lg_sl (as.map (oV G)) ++ List.replicate (n - (lg_sl (as.map (oV G))).length) Slot.unset).toArray) n (oEnt as n) := by
  have h0 := lv_entry (as.map (oV G)) (n := n) (by rw [oFl_len]; exact hn)
  refine ⟨h0.1, h0.2.1, fun i v hi => ?_⟩
  have h1 : (oFl as)[i]? = some (some v) := by
    unfold oEnt at hi
    by_cases hl : i < (oFl as).length
    · rwa [List.getElem?_append_left hl] at hi
    · rw [List.getElem?_append_right (by omega)] at hi
      have := List.eq_of_mem_replicate (List.mem_of_getElem? hi)
      cases this
  have h2 := h0.2.2 _ (oFl_args G as 0 i v h1)
  rwa [Nat.zero_add] at h2
theorem oC.rep {G : oG} {M : oM} {n0 nF : Nat} {p : Program} {l : Launch} {R : Room} {s : State} {m : MethodId} {args : Array Value} {meth : Method} {c : Code} (C : oC G M n0 nF p l R s m args meth c) {h : oH} {H : Heap} {locs : List Loc} (hS : va_S (fun q => G.1 ≤ q) s.heap H locs) (hP : va_P G.2.1 vwCl (oWs G h) H) (hz : H.size = G.1 + h.1) : ∀ U : State, U.heap = H → s.WarmedH U.vm → oRep G h U := by
  obtain ⟨-, -, -, -, -, -, -, -, hK, hX, hXR, -⟩ := C
  intro U hU hW
  refine ⟨by rw [hU]; exact hP, by rw [hU]; exact hz, va_K.moved hW.alike hK, ?_, hXR.warm hW⟩
  rw [hU]
  exact (hX.kept hS.2.1).moved hW.alike
theorem oSp.intro {G : oG} {M : oM} {as : List Value} {h : oH} {r : Option Value} {h' : oH} (L : List (Option Value)) (hL : oEnt as M.2.2.1 = L) (hn : (oFl as).length ≤ M.2.2.1) (hpl : plainName M.1.cls = true) (hle : h.1 ≤ h'.1)
    (B : ∀ (p : Program) (l : Launch) (e : Env) (R : Room) (s : State) (m : MethodId) (args : Array Value) (below : List Frame) (meth : Method) (c : Code), oC G M h.1 h'.1 p l R s m args meth c → oS G M p l e R s m args below meth c (oZ G below args s h.1 h'.1 r h') h.1 0 L [] h) : oSp G M as h r h' := by
  refine ⟨hle, fun l => Met.ofW (cc := M.2.1) (maxL := M.2.2.1) (ret := M.2.2.2.1) hpl rfl ?_⟩
  intro p e s m args below meth c s₁ Bd hml hv
  obtain ⟨rfl, hrep⟩ := hv
  have C : oC G M h.1 h'.1 p l (oR M (h'.1 - h.1) (sl h'.1 - sl h.1)) s m ((as.map (oV G)).toArray) meth c := ⟨Bd.exec, Bd.bytes, Bd.returns, hml, findClass_of_methodNamed Bd.named, fun w hw => atoms_spec (ws := oW M) Bd.pre w (List.mem_cons_of_mem _ hw), Bd.notSynchronized, (name_of_methodNamed Bd.named Bd.method).1, hrep.2.2.1, hrep.2.2.2.1, hrep.2.2.2.2, by rw [hrep.2.1]; exact Nat.le_add_right _ _, Nat.le_refl _, Nat.le_refl _, Nat.le_refl _, Nat.le_refl _⟩
  have k := B p l e (oR M (h'.1 - h.1) (sl h'.1 - sl h.1)) s m _ below meth c C s.heap [] _ va_S.rf hrep.1 hrep.2.1 (Nat.le_refl _) (hL ▸ oEnt_ok G hn)
  rw [Nat.sub_self, Nat.sub_self] at k
  rw [lg_entry_eq]
  exact k
theorem wsL_good : ∀ w ∈ oWL, goodWord w = true := fun w h => (List.mem_filter.mp h).2
theorem wsL_gin {ws : List Cond} (h : ∀ w ∈ ws, w ∈ oWL) : GoodIn oWL ws := fun w hw => ⟨h w hw, good_of_word (wsL_good w (h w hw))⟩
/-- what the tables say of a method: its code row; called by an object; static -/
def oMc (M : oM) : Prop := Cond.code M.1 M.2.1 M.2.2.1 M.2.2.2.1 ∈ oWL ∧ Cond.initialized M.1.cls ∈ oWL ∧ M.1.cls ≠ "java/lang/invoke/MethodHandle" ∧ M.1.cls ≠ "java/lang/invoke/VarHandle"
def oMi (M : oM) : Prop := oMc M ∧ Cond.instanceMethod M.1 ∈ oWL
def oMv (M : oM) : Prop := oMi M ∧ Cond.selects M.1.cls M.1 M.1 ∈ oWL
def oMs (M : oM) : Prop := oMc M ∧ Cond.static M.1 ∈ oWL
def oN (M : oM) (n : Nat) : Prop := (parseMethodDescriptor M.1.desc).map (fun d => d.parameters.length) = some n
def oFit (M N : oM) : Prop := N.2.2.2.2.1 + 1 ≤ M.2.2.2.2.1 ∧ 8 + (N.2.2.1 + 11) + N.2.2.2.2.2 ≤ M.2.2.2.2.2
section OHEAP
variable {G : oG} {M : oM} {p : Program} {l : Launch} {e : Env} {R : Room} {s : State} {m : MethodId} {args : Array Value} {below : List Frame} {meth : Method} {c : Code} {Z : State → Prop} {n0 nF pc : Nat} {L : List (Option Value)} {S : List Value} {h : oH}
theorem r_get (C : oC G M n0 nF p l R s m args meth c) {a ci k idx : Nat} {ty : FieldType} {v : Value} (hd : decode M.2.1 pc = .ok (.getfield idx, 3)) (hf : oFL M.1.cls idx ci k ty) (ht : tg a = (0, ci)) (ha : a < h.1) (hv : fv G ci h a k = oV G v) (kk : oS G M p l e R s m args below meth c Z n0 (pc + 3) L (v :: S) h) : oS G M p l e R s m args below meth c Z n0 pc L (.ref a :: S) h := fun H locs ls i1 i2 i3 i4 i5 => by
  obtain ⟨hc7, hk, -, hw⟩ := hf
  have k1 := kk H locs ls i1 i2 i3 i4 i5
  obtain ⟨x1, x2, -, -, x5, x6, -, -, hK, -⟩ := C
  refine va_get (own := M.1.cls) (C := (clQ ci).1) (T := (clQ ci).2.1) (N := (clQ ci).2.2) x1 x2 x6 (clQ_in hc7) x5 hK i2 a ((oWs_get ha).trans (congrArg (fun z => some (G.1 + a, z)) (oE_obj ht))) (clQ_ok hc7) k (by rw [clQ_nf hc7]; exact hk) (x6 _ hw) (fun _ q => q) (fs_get hk) hd ?_
  rw [hv]
  exact k1
theorem r_getI (C : oC G M n0 nF p l R s m args meth c) {a ci k idx : Nat} (hd : decode M.2.1 pc = .ok (.getfield idx, 3)) (hf : oFL M.1.cls idx ci k .int) (ht : tg a = (0, ci)) (ha : a < h.1) (kk : oS G M p l e R s m args below meth c Z n0 (pc + 3) L (.int (hI h a k) :: S) h) : oS G M p l e R s m args below meth c Z n0 pc L (.ref a :: S) h := r_get C hd hf ht ha (fv_int hf.2.2.1) kk
theorem r_getZ (C : oC G M n0 nF p l R s m args meth c) {a ci k idx : Nat} (hd : decode M.2.1 pc = .ok (.getfield idx, 3)) (hf : oFL M.1.cls idx ci k .boolean) (ht : tg a = (0, ci)) (ha : a < h.1) (kk : oS G M p l e R s m args below meth c Z n0 (pc + 3) L (.int (hI h a k) :: S) h) : oS G M p l e R s m args below meth c Z n0 pc L (.ref a :: S) h := r_get C hd hf ht ha (fv_bool hf.2.2.1) kk
theorem r_getJ (C : oC G M n0 nF p l R s m args meth c) {a ci k idx : Nat} (hd : decode M.2.1 pc = .ok (.getfield idx, 3)) (hf : oFL M.1.cls idx ci k .long) (ht : tg a = (0, ci)) (ha : a < h.1) (kk : oS G M p l e R s m args below meth c Z n0 (pc + 3) L (.long (hJ h a k) :: S) h) : oS G M p l e R s m args below meth c Z n0 pc L (.ref a :: S) h := r_get C hd hf ht ha (fv_long hf.2.2.1) kk
theorem r_getR (C : oC G M n0 nF p l R s m args meth c) {a ci k idx : Nat} {ty : FieldType} {r : Option Nat} (hd : decode M.2.1 pc = .ok (.getfield idx, 3)) (hf : oFL M.1.cls idx ci k ty) (hty : tyR ty = true) (ht : tg a = (0, ci)) (ha : a < h.1) (hr : hR h a k = r) (kk : oS G M p l e R s m args below meth c Z n0 (pc + 3) L (va_rf r :: S) h) : oS G M p l e R s m args below meth c Z n0 pc L (.ref a :: S) h := r_get C hd hf ht ha (by rw [fv_ref hf.2.2.1 hty, hr, oV_rf]) kk
theorem r_put (C : oC G M n0 nF p l R s m args meth c) {a ci k idx : Nat} {ty : FieldType} {v : Value} (h' : oH) (hd : decode M.2.1 pc = .ok (.putfield idx, 3)) (hf : oFL M.1.cls idx ci k ty) (ht : tg a = (0, ci)) (ha : a < h.1) (hfin : ((clQ ci).2.1 k).2.2.2 = false ∨ (((clQ ci).2.1 k).2.2.2 = true ∧ M.1.name = "<init>" ∧ ((clQ ci).2.1 k).1 = M.1.cls)) (hn : narrow ty (oV G v) = oV G v) (hfit : fits ty (oV G v) = true)
    (h1 : h'.1 = h.1) (hv : fv G ci h' a k = oV G v) (ho : ∀ j, j ≠ k → fv G ci h' a j = fv G ci h a j) (ho2 : ∀ j, j ≠ a → oE G h' j = oE G h j) (kk : oS G M p l e R s m args below meth c Z n0 (pc + 3) L S h') : oS G M p l e R s m args below meth c Z n0 pc L (v :: .ref a :: S) h := fun H locs ls i1 i2 i3 i4 i5 => by
  obtain ⟨hc7, hk, hty, hw⟩ := hf
  obtain ⟨x1, x2, -, -, x5, x6, -, x8, hK, -⟩ := C
  have e1 : (oWs G h).set a (G.1 + a, .inr (ci, ((List.range (nf ci)).map (fv G ci h a)).set k (oV G v))) = oWs G h' := oWs_set h1 ho2 (by rw [oE_obj ht, fs_set hk hv ho])
  have hk2 : k < (clQ ci).2.2 := by rw [clQ_nf hc7]; exact hk
  have hlen : k < ((List.range (nf ci)).map (fv G ci h a)).length := by rw [List.length_map, List.length_range]; exact hk
  have hd2 : parseFieldDescriptor ((clQ ci).2.1 k).2.2.1 = some ty := by rw [clQ_ty hc7 k hk2, hty]
  have kf : ∀ (H1 : Heap) (locs1 : List Loc), va_P G.2.1 vwCl ((oWs G h).set a (G.1 + a, .inr (ci, ((List.range (nf ci)).map (fv G ci h a)).set k (oV G v)))) H1 → va_S (fun q => G.1 ≤ q) s.heap H1 locs1 → H1.size = H.size → W p l e R s m args below meth c H1 locs1 (h.1 - n0) (sl h.1 - sl n0) Z (F0 m (pc + 3) ls (S.map (oV G))) := by
    intro H1 locs1 q1 q2 q3
    rw [e1] at q1
    have k1 := kk H1 locs1 ls q2 q1 (by rw [q3, i3, h1]) (by rw [h1]; exact i4) i5
    rw [h1] at k1
    exact k1
  have he := (oWs_get (G := G) ha).trans (congrArg (fun z => some (G.1 + a, z)) (oE_obj ht))
  obtain ⟨r0, hr1, cell, q1, q2, q3, q4⟩ := i2 a _ he
  have hr : r0 = clQ ci := Option.some.inj (hr1.symm.trans (clQ_ok hc7))
  subst hr
  have hap := va_apart (own := M.1.cls) x6 (clQ_in hc7) (tyC ci) (clQ_ty hc7) (clQ_nm hc7) hK (clQ_ok hc7)
  obtain ⟨hSl, hfc, kC, hkC, hkind⟩ := hK.1 ci _ (clQ_ok hc7)
  obtain ⟨cf, kf0, fi, f, hi, hsl⟩ := hSl k hk2
  have hst := (u_facts hfc hkC (u_lays x6 (clQ_in hc7) hk2) hi).1
  have hlay := x6 _ (clQ_in hc7 _ (u_in_lay hk2))
  rcases hfin with hfin | ⟨hfin, hin2, hdecl⟩
  · unfold u_lay at hlay
    rw [if_neg (by rw [hfin]; decide)] at hlay
    have h6 := u_store hfc hkC hkind hlay hi hd2 hn hfit
    refine W.putK x1 x2 (f := f) ⟨x5, x6 _ hw, ⟨_, _, _, hi⟩, hst⟩ (by rw [q2]; exact h6) q1 q3 (by rw [hsl]; exact k2_hasslot (q4 k hk2)) rfl rfl hd fun H' e1' e2' e3' => ?_
    rw [hsl] at e1' ⊢
    exact kf H' _ (i2.set (oWs_D G h) he ⟨_, clQ_ok hc7, t_OB.to (V := updV (vp_V ((List.range (nf ci)).map (fv G ci h a))) k (oV G v)) ⟨_, e1', q2, q3, t_set q4 hap hk2 _⟩ (fun j _ => vp_updV_set hlen _ j)⟩ e3') (i1.put e2' e3' ((oWs_D G h).2 a _ he)) e2'
  · unfold u_lay at hlay
    rw [if_pos hfin] at hlay
    have hcf : m.cls = cf := by
      obtain ⟨_, _, c', _, _, _, -, -, hf', -, -, -, hown2, -⟩ := Cond.laysFinal_spec hlay
      have e1 : c' = cf := by have := hi.symm.trans hf'; simp at this; exact this.1.symm
      rw [hdecl] at hown2
      rw [← e1]; exact Option.some.inj (x5.symm.trans hown2)
    have h6 := u_fits hfc hkC hkind (Or.inr hlay) hi hd2 hn hfit
    refine W.putFinK x1 x2 x5 (x6 _ hw) hi hst hcf (x8.trans hin2) (by rw [q2]; exact h6) q1 q3 (by rw [hsl]; exact k2_hasslot (q4 k hk2)) rfl rfl hd fun H' e1' e2' e3' => ?_
    rw [hsl] at e1' ⊢
    exact kf H' _ (i2.set (oWs_D G h) he ⟨_, clQ_ok hc7, t_OB.to (V := updV (vp_V ((List.range (nf ci)).map (fv G ci h a))) k (oV G v)) ⟨_, e1', q2, q3, t_set q4 hap hk2 _⟩ (fun j _ => vp_updV_set hlen _ j)⟩ e3') (i1.put e2' e3' ((oWs_D G h).2 a _ he)) e2'
theorem r_putI (C : oC G M n0 nF p l R s m args meth c) {a ci k idx : Nat} {x : Int32} (hd : decode M.2.1 pc = .ok (.putfield idx, 3)) (hf : oFL M.1.cls idx ci k .int) (ht : tg a = (0, ci)) (ha : a < h.1) (hfin : ((clQ ci).2.1 k).2.2.2 = false ∨ (((clQ ci).2.1 k).2.2.2 = true ∧ M.1.name = "<init>" ∧ ((clQ ci).2.1 k).1 = M.1.cls)) (kk : oS G M p l e R s m args below meth c Z n0 (pc + 3) L S (sI h a k x)) : oS G M p l e R s m args below meth c Z n0 pc L (.int x :: .ref a :: S) h :=
  r_put C (sI h a k x) hd hf ht ha hfin rfl rfl rfl ((fv_int hf.2.2.1).trans (by rw [hI_sI, if_pos ⟨rfl, rfl⟩]; rfl)) (fun j hj => by simp only [fv, hI_sI, hJ_sI, hR_sI]; rw [if_neg (fun q => hj q.2)]) (fun j hj => oE_ext (fun k => by rw [hI_sI, if_neg (fun q => hj q.1)]) (fun k => rfl) (fun k => rfl)) kk
theorem r_putZ (C : oC G M n0 nF p l R s m args meth c) {a ci k idx : Nat} {x : Int32} (hd : decode M.2.1 pc = .ok (.putfield idx, 3)) (hf : oFL M.1.cls idx ci k .boolean) (ht : tg a = (0, ci)) (ha : a < h.1) (hfin : ((clQ ci).2.1 k).2.2.2 = false ∨ (((clQ ci).2.1 k).2.2.2 = true ∧ M.1.name = "<init>" ∧ ((clQ ci).2.1 k).1 = M.1.cls)) (hx : narrow .boolean (.int x) = .int x ∧ fits .boolean (.int x) = true) (kk : oS G M p l e R s m args below meth c Z n0 (pc + 3) L S (sI h a k x)) : oS G M p l e R s m args below meth c Z n0 pc L (.int x :: .ref a :: S) h :=
  r_put C (sI h a k x) hd hf ht ha hfin hx.1 hx.2 rfl ((fv_bool hf.2.2.1).trans (by rw [hI_sI, if_pos ⟨rfl, rfl⟩]; rfl)) (fun j hj => by simp only [fv, hI_sI, hJ_sI, hR_sI]; rw [if_neg (fun q => hj q.2)]) (fun j hj => oE_ext (fun k => by rw [hI_sI, if_neg (fun q => hj q.1)]) (fun k => rfl) (fun k => rfl)) kk
theorem r_putJ (C : oC G M n0 nF p l R s m args meth c) {a ci k idx : Nat} {x : Int64} (hd : decode M.2.1 pc = .ok (.putfield idx, 3)) (hf : oFL M.1.cls idx ci k .long) (ht : tg a = (0, ci)) (ha : a < h.1) (hfin : ((clQ ci).2.1 k).2.2.2 = false ∨ (((clQ ci).2.1 k).2.2.2 = true ∧ M.1.name = "<init>" ∧ ((clQ ci).2.1 k).1 = M.1.cls)) (kk : oS G M p l e R s m args below meth c Z n0 (pc + 3) L S (sJ h a k x)) : oS G M p l e R s m args below meth c Z n0 pc L (.long x :: .ref a :: S) h :=
  r_put C (sJ h a k x) hd hf ht ha hfin rfl rfl rfl ((fv_long hf.2.2.1).trans (by rw [hJ_sJ, if_pos ⟨rfl, rfl⟩]; rfl)) (fun j hj => by simp only [fv, hI_sJ, hJ_sJ, hR_sJ]; rw [if_neg (fun q => hj q.2)]) (fun j hj => oE_ext (fun k => rfl) (fun k => by rw [hJ_sJ, if_neg (fun q => hj q.1)]) (fun k => rfl)) kk
theorem r_putR (C : oC G M n0 nF p l R s m args meth c) {a ci k idx : Nat} {ty : FieldType} {v : Value} (r : Option Nat) (hv : v = va_rf r) (hd : decode M.2.1 pc = .ok (.putfield idx, 3)) (hf : oFL M.1.cls idx ci k ty) (hty : tyR ty = true) (ht : tg a = (0, ci)) (ha : a < h.1) (hfin : ((clQ ci).2.1 k).2.2.2 = false ∨ (((clQ ci).2.1 k).2.2.2 = true ∧ M.1.name = "<init>" ∧ ((clQ ci).2.1 k).1 = M.1.cls)) (kk : oS G M p l e R s m args below meth c Z n0 (pc + 3) L S (sR h a k r)) : oS G M p l e R s m args below meth c Z n0 pc L (v :: .ref a :: S) h := by
  subst hv
  have hnf : narrow ty (oV G (va_rf r)) = oV G (va_rf r) ∧ fits ty (oV G (va_rf r)) = true := by
    cases ty <;> first | exact absurd hty Bool.false_ne_true | (cases r <;> exact ⟨rfl, rfl⟩)
  exact r_put C (sR h a k r) hd hf ht ha hfin hnf.1 hnf.2 rfl ((fv_ref hf.2.2.1 hty).trans (by rw [hR_sR, if_pos ⟨rfl, rfl⟩, oV_rf])) (fun j hj => by simp only [fv, hI_sR, hJ_sR, hR_sR]; rw [if_neg (fun q => hj q.2)]) (fun j hj => oE_ext (fun k => rfl) (fun k => rfl) (fun k => by rw [hR_sR, if_neg (fun q => hj q.1)])) kk
/-! arrays -/
theorem oE_i {a n : Nat} (ht : tg a = (1, n)) : oE G h a = .inl (G.2.2.1 0, n, .inl (hI h a)) := by unfold oE; rw [ht]; rfl
theorem oE_b {a n : Nat} (ht : tg a = (2, n)) : oE G h a = .inl (G.2.2.1 1, n, .inl (hI h a)) := by unfold oE; rw [ht]; rfl
theorem oE_z {a n : Nat} (ht : tg a = (3, n)) : oE G h a = .inl (G.2.2.1 2, n, .inl (hI h a)) := by unfold oE; rw [ht]; rfl
theorem oE_q {a n : Nat} (ht : tg a = (4, n)) : oE G h a = .inl (G.2.2.1 3, n, .inr (.inr (.inr (.inr (fun j => (hR h a j).map (fun i => G.1 + i)))))) := by unfold oE; rw [ht]; rfl
theorem r_alen (C : oC G M n0 nF p l R s m args meth c) {a t n : Nat} (v : Int32) (hd : decode M.2.1 pc = .ok (.arraylength, 1)) (ht : tg a = (t, n)) (h0 : t = 1 ∨ t = 2 ∨ t = 3 ∨ t = 4) (ha : a < h.1) (hv : Int32.ofNat n = v) (kk : oS G M p l e R s m args below meth c Z n0 (pc + 1) L (.int v :: S) h) : oS G M p l e R s m args below meth c Z n0 pc L (.ref a :: S) h := fun H locs ls i1 i2 i3 i4 i5 => by
  have k1 := kk H locs ls i1 i2 i3 i4 i5
  obtain ⟨x1, x2, -, -, x5, x6, -, -, hK, -⟩ := C
  rcases h0 with rfl | rfl | rfl | rfl
  · exact va_alen x1 x2 hK i2 a 0 ((oWs_get ha).trans (congrArg (fun z => some (G.1 + a, z)) (oE_i ht))) rfl hv hd k1
  · exact va_alen x1 x2 hK i2 a 1 ((oWs_get ha).trans (congrArg (fun z => some (G.1 + a, z)) (oE_b ht))) rfl hv hd k1
  · exact va_alen x1 x2 hK i2 a 2 ((oWs_get ha).trans (congrArg (fun z => some (G.1 + a, z)) (oE_z ht))) rfl hv hd k1
  · exact va_alen x1 x2 hK i2 a 3 ((oWs_get ha).trans (congrArg (fun z => some (G.1 + a, z)) (oE_q ht))) rfl hv hd k1
theorem vin_of {i : Int32} {j n : Nat} (hi : i.toInt = j) (hj : j < n) : vp_in i n ∧ i.toNatClampNeg = j := by
  have e : i.toNatClampNeg = j := by show i.toInt.toNat = j; omega
  refine ⟨fun q => ?_, e⟩
  rcases q with q | q
  · have := Int32.lt_iff_toInt_lt.mp q
    simp only [Int32.toInt_zero] at this
    omega
  · omega
theorem r_iald (C : oC G M n0 nF p l R s m args meth c) {a n : Nat} {i : Int32} (j : Nat) (hi : i.toInt = j) (hj : j < n) (hd : decode M.2.1 pc = .ok (.iaload, 1)) (ht : tg a = (1, n)) (ha : a < h.1) (kk : oS G M p l e R s m args below meth c Z n0 (pc + 1) L (.int (hI h a j) :: S) h) : oS G M p l e R s m args below meth c Z n0 pc L (.int i :: .ref a :: S) h := fun H locs ls i1 i2 i3 i4 i5 => by
  have k1 := kk H locs ls i1 i2 i3 i4 i5
  obtain ⟨x1, x2, -, -, x5, x6, -, -, hK, -⟩ := C
  obtain ⟨g1, g2⟩ := vin_of hi hj
  refine va_iald x1 x2 hK i2 a 0 ((oWs_get ha).trans (congrArg (fun z => some (G.1 + a, z)) (oE_i ht))) rfl g1 hd ?_
  rw [g2]
  exact k1
theorem r_bald (C : oC G M n0 nF p l R s m args meth c) {a n : Nat} {i : Int32} (j : Nat) (hi : i.toInt = j) (hj : j < n) (hd : decode M.2.1 pc = .ok (.baload, 1)) (ht : tg a = (2, n)) (ha : a < h.1) (kk : oS G M p l e R s m args below meth c Z n0 (pc + 1) L (.int (hI h a j) :: S) h) : oS G M p l e R s m args below meth c Z n0 pc L (.int i :: .ref a :: S) h := fun H locs ls i1 i2 i3 i4 i5 => by
  have k1 := kk H locs ls i1 i2 i3 i4 i5
  obtain ⟨x1, x2, -, -, x5, x6, -, -, hK, -⟩ := C
  obtain ⟨g1, g2⟩ := vin_of hi hj
  refine va_bald x1 x2 hK i2 a 1 ((oWs_get ha).trans (congrArg (fun z => some (G.1 + a, z)) (oE_b ht))) rfl g1 hd ?_
  rw [g2]
  exact k1
theorem r_zald (C : oC G M n0 nF p l R s m args meth c) {a n : Nat} {i : Int32} (j : Nat) (hi : i.toInt = j) (hj : j < n) (hd : decode M.2.1 pc = .ok (.baload, 1)) (ht : tg a = (3, n)) (ha : a < h.1) (kk : oS G M p l e R s m args below meth c Z n0 (pc + 1) L (.int (hI h a j) :: S) h) : oS G M p l e R s m args below meth c Z n0 pc L (.int i :: .ref a :: S) h := fun H locs ls i1 i2 i3 i4 i5 => by
  have k1 := kk H locs ls i1 i2 i3 i4 i5
  obtain ⟨x1, x2, -, -, x5, x6, -, -, hK, -⟩ := C
  obtain ⟨g1, g2⟩ := vin_of hi hj
  refine va_zald x1 x2 hK i2 a 2 ((oWs_get ha).trans (congrArg (fun z => some (G.1 + a, z)) (oE_z ht))) rfl g1 hd ?_
  rw [g2]
  exact k1
theorem r_aald (C : oC G M n0 nF p l R s m args meth c) {a n : Nat} {i : Int32} {r : Option Nat} (j : Nat) (hi : i.toInt = j) (hj : j < n) (hd : decode M.2.1 pc = .ok (.aaload, 1)) (ht : tg a = (4, n)) (ha : a < h.1) (hr : hR h a j = r) (kk : oS G M p l e R s m args below meth c Z n0 (pc + 1) L (va_rf r :: S) h) : oS G M p l e R s m args below meth c Z n0 pc L (.int i :: .ref a :: S) h := fun H locs ls i1 i2 i3 i4 i5 => by
  have k1 := kk H locs ls i1 i2 i3 i4 i5
  obtain ⟨x1, x2, -, -, x5, x6, -, -, hK, -⟩ := C
  obtain ⟨g1, g2⟩ := vin_of hi hj
  refine va_aldq x1 x2 hK i2 a 3 ((oWs_get ha).trans (congrArg (fun z => some (G.1 + a, z)) (oE_q ht))) rfl g1 hd ?_
  rw [g2, hr, ← oV_rf]
  exact k1
theorem set_sz {A : Nat → Prop} {H0 H H1 : Heap} {D : va_G} {ws : va_W} (z : H1.size = H.size) : H1.size = H.size := z
theorem r_iast (C : oC G M n0 nF p l R s m args meth c) {a n : Nat} {i x : Int32} (j : Nat) (hi : i.toInt = j) (hj : j < n) (hd : decode M.2.1 pc = .ok (.iastore, 1)) (ht : tg a = (1, n)) (ha : a < h.1) (kk : oS G M p l e R s m args below meth c Z n0 (pc + 1) L S (sI h a j x)) : oS G M p l e R s m args below meth c Z n0 pc L (.int x :: .int i :: .ref a :: S) h := fun H locs ls i1 i2 i3 i4 i5 => by
  obtain ⟨x1, x2, -, -, x5, x6, -, -, hK, -⟩ := C
  obtain ⟨g1, g2⟩ := vin_of hi hj
  have he := (oWs_get (G := G) ha).trans (congrArg (fun z => some (G.1 + a, z)) (oE_i ht))
  refine W.iast x1 x2 (i2 a _ he) ((hK.2 0 _ rfl).1 n (fun j => .int (hI h a j))) (fun q => by cases q) (by show ¬ (i < 0 ∨ (arrV _ _ _).slots.size ≤ _); rw [arrV_size]; exact g1) rfl rfl hd fun H1 e1 z1 oq => ?_
  have e0 : upd (hI h a) j x = hI (sI h a j x) a := funext fun k => by
    rw [hI_sI]
    by_cases hk : k = j
    · rw [if_pos ⟨rfl, hk⟩]; simp [upd, hk]
    · rw [if_neg (fun q => hk q.2)]; simp [upd, hk]
  have e2 : (oWs G h).set a (G.1 + a, .inl (G.2.2.1 0, n, .inl (upd (hI h a) j x))) = oWs G (sI h a j x) := by
    rw [e0]
    exact oWs_set (h := h) (h' := sI h a j x) rfl (fun b hb => oE_ext (h := h) (h' := sI h a j x) (fun k => by rw [hI_sI, if_neg (fun q => hb q.1)]) (fun k => rfl) (fun k => rfl)) (oE_i (G := G) (h := sI h a j x) ht).symm
  have q1 : va_P G.2.1 vwCl ((oWs G h).set a (G.1 + a, .inl (G.2.2.1 0, n, .inl (upd (hI h a) j x)))) H1 := i2.set (oWs_D G h) he (by
    show H1[G.1 + a]? = some (vp_cell _ _)
    rw [e1]
    show some ((vp_cell _ _).setSlot _ _) = _
    rw [vp_cell_i, vp_cell_i, arrV_store, g2]
    congr 2
    funext q
    by_cases hq : q = j
    · subst hq
      simp [updV, upd]
    · simp [updV, upd, hq]) oq
  rw [e2] at q1
  exact kk H1 _ ls (i1.put z1 oq ((oWs_D G h).2 a _ he)) q1 (by rw [z1, i3]; rfl) i4 i5
theorem r_bast (C : oC G M n0 nF p l R s m args meth c) {a n : Nat} {i x : Int32} (j : Nat) (y : Int32) (hy : narrow .byte (.int x) = .int y) (hi : i.toInt = j) (hj : j < n) (hd : decode M.2.1 pc = .ok (.bastore, 1)) (ht : tg a = (2, n)) (ha : a < h.1) (kk : oS G M p l e R s m args below meth c Z n0 (pc + 1) L S (sI h a j y)) : oS G M p l e R s m args below meth c Z n0 pc L (.int x :: .int i :: .ref a :: S) h := fun H locs ls i1 i2 i3 i4 i5 => by
  obtain ⟨x1, x2, -, -, x5, x6, -, -, hK, -⟩ := C
  obtain ⟨g1, g2⟩ := vin_of hi hj
  have he := (oWs_get (G := G) ha).trans (congrArg (fun z => some (G.1 + a, z)) (oE_b ht))
  refine W.bast x1 x2 (i2 a _ he) ((hK.2 1 _ rfl).1 n (fun j => .int (hI h a j))) (fun q => by cases q) (by show ¬ (i < 0 ∨ (arrV _ _ _).slots.size ≤ _); rw [arrV_size]; exact g1) rfl rfl hd fun H1 e1 z1 oq => ?_
  have e0 : upd (hI h a) j y = hI (sI h a j y) a := funext fun k => by
    rw [hI_sI]
    by_cases hk : k = j
    · rw [if_pos ⟨rfl, hk⟩]; simp [upd, hk]
    · rw [if_neg (fun q => hk q.2)]; simp [upd, hk]
  have e2 : (oWs G h).set a (G.1 + a, .inl (G.2.2.1 1, n, .inl (upd (hI h a) j y))) = oWs G (sI h a j y) := by
    rw [e0]
    exact oWs_set (h := h) (h' := sI h a j y) rfl (fun b hb => oE_ext (h := h) (h' := sI h a j y) (fun k => by rw [hI_sI, if_neg (fun q => hb q.1)]) (fun k => rfl) (fun k => rfl)) (oE_b (G := G) (h := sI h a j y) ht).symm
  have q1 : va_P G.2.1 vwCl ((oWs G h).set a (G.1 + a, .inl (G.2.2.1 1, n, .inl (upd (hI h a) j y)))) H1 := i2.set (oWs_D G h) he (by
    show H1[G.1 + a]? = some (vp_cell _ _)
    rw [e1, hy]
    show some ((vp_cell _ _).setSlot _ _) = _
    rw [vp_cell_i, vp_cell_i, arrV_store, g2]
    congr 2
    funext q
    by_cases hq : q = j
    · subst hq
      simp [updV, upd]
    · simp [updV, upd, hq]) oq
  rw [e2] at q1
  exact kk H1 _ ls (i1.put z1 oq ((oWs_D G h).2 a _ he)) q1 (by rw [z1, i3]; rfl) i4 i5
theorem r_zast (C : oC G M n0 nF p l R s m args meth c) {a n : Nat} {i x : Int32} (j : Nat) (y : Int32) (hy : narrow .boolean (.int x) = .int y) (hi : i.toInt = j) (hj : j < n) (hd : decode M.2.1 pc = .ok (.bastore, 1)) (ht : tg a = (3, n)) (ha : a < h.1) (kk : oS G M p l e R s m args below meth c Z n0 (pc + 1) L S (sI h a j y)) : oS G M p l e R s m args below meth c Z n0 pc L (.int x :: .int i :: .ref a :: S) h := fun H locs ls i1 i2 i3 i4 i5 => by
  obtain ⟨x1, x2, -, -, x5, x6, -, -, hK, -⟩ := C
  obtain ⟨g1, g2⟩ := vin_of hi hj
  have he := (oWs_get (G := G) ha).trans (congrArg (fun z => some (G.1 + a, z)) (oE_z ht))
  refine W.zast x1 x2 (i2 a _ he) ((hK.2 2 _ rfl).1 n (fun j => .int (hI h a j))) (fun q => by cases q) (by show ¬ (i < 0 ∨ (arrV _ _ _).slots.size ≤ _); rw [arrV_size]; exact g1) rfl rfl hd fun H1 e1 z1 oq => ?_
  have e0 : upd (hI h a) j y = hI (sI h a j y) a := funext fun k => by
    rw [hI_sI]
    by_cases hk : k = j
    · rw [if_pos ⟨rfl, hk⟩]; simp [upd, hk]
    · rw [if_neg (fun q => hk q.2)]; simp [upd, hk]
  have e2 : (oWs G h).set a (G.1 + a, .inl (G.2.2.1 2, n, .inl (upd (hI h a) j y))) = oWs G (sI h a j y) := by
    rw [e0]
    exact oWs_set (h := h) (h' := sI h a j y) rfl (fun b hb => oE_ext (h := h) (h' := sI h a j y) (fun k => by rw [hI_sI, if_neg (fun q => hb q.1)]) (fun k => rfl) (fun k => rfl)) (oE_z (G := G) (h := sI h a j y) ht).symm
  have q1 : va_P G.2.1 vwCl ((oWs G h).set a (G.1 + a, .inl (G.2.2.1 2, n, .inl (upd (hI h a) j y)))) H1 := i2.set (oWs_D G h) he (by
    show H1[G.1 + a]? = some (vp_cell _ _)
    rw [e1, hy]
    show some ((vp_cell _ _).setSlot _ _) = _
    rw [vp_cell_i, vp_cell_i, arrV_store, g2]
    congr 2
    funext q
    by_cases hq : q = j
    · subst hq
      simp [updV, upd]
    · simp [updV, upd, hq]) oq
  rw [e2] at q1
  exact kk H1 _ ls (i1.put z1 oq ((oWs_D G h).2 a _ he)) q1 (by rw [z1, i3]; rfl) i4 i5
/-- a house into the row of houses -/
theorem r_aast (C : oC G M n0 nF p l R s m args meth c) {a b n : Nat} {i : Int32} (j : Nat) (hi : i.toInt = j) (hj : j < n) (hd : decode M.2.1 pc = .ok (.aastore, 1)) (ht : tg a = (4, n)) (ha : a < h.1) (htb : tg b = (0, 1)) (hb : b < h.1) (kk : oS G M p l e R s m args below meth c Z n0 (pc + 1) L S (sR h a j (some b))) : oS G M p l e R s m args below meth c Z n0 pc L (.ref b :: .int i :: .ref a :: S) h := fun H locs ls i1 i2 i3 i4 i5 => by
  obtain ⟨x1, x2, -, -, x5, x6, -, -, hK, -⟩ := C
  obtain ⟨g1, g2⟩ := vin_of hi hj
  have he := (oWs_get (G := G) ha).trans (congrArg (fun z => some (G.1 + a, z)) (oE_q ht))
  have heb := (oWs_get (G := G) hb).trans (congrArg (fun z => some (G.1 + b, z)) (oE_obj htb))
  obtain ⟨r', hr', cellV, w1, w2, w3, -⟩ := i2 b _ heb
  have hcls := (hK.1 1 _ (clQ_ok (by decide))).2
  obtain ⟨kA, comp, k1, k2, k3, -⟩ := (hK.2 3 _ rfl).2
  have hcomp : comp = G.2.1.1 1 := Option.some.inj (k3.symm.trans hcls.1)
  subst hcomp
  obtain ⟨kC, hkC, -⟩ := hcls.2
  refine W.aast x1 x2 (i2 a _ he) (fun q h => by cases h) (fun h => by cases h) k1 k2 rfl hkC ⟨fun q => g1 (Or.inl q), by show _ < (arrV _ _ _).slots.size; rw [arrV_size, g2]; exact hj⟩ w1 (fun q h => by rw [w3] at h; cases h) (by rw [w2]; exact hkC) (by rw [w2]; exact va_assign hcls) rfl rfl hd fun H1 e1 z1 oq => ?_
  have e0 : va_up (fun j => (hR h a j).map (fun i => G.1 + i)) j (some (G.1 + b)) = (fun k => (hR (sR h a j (some b)) a k).map (fun i => G.1 + i)) := funext fun k => by
    rw [hR_sR]
    by_cases hk : k = j
    · rw [if_pos ⟨rfl, hk⟩]; simp [va_up, hk]
    · rw [if_neg (fun q => hk q.2)]; simp [va_up, hk]
  have e2 : (oWs G h).set a (G.1 + a, .inl (G.2.2.1 3, n, .inr (.inr (.inr (.inr (va_up (fun j => (hR h a j).map (fun i => G.1 + i)) j (some (G.1 + b)))))))) = oWs G (sR h a j (some b)) := by
    rw [e0]
    exact oWs_set (h := h) (h' := sR h a j (some b)) rfl (fun b' hb => oE_ext (h := h) (h' := sR h a j (some b)) (fun k => rfl) (fun k => rfl) (fun k => by rw [hR_sR, if_neg (fun q => hb q.1)])) (oE_q (G := G) (h := sR h a j (some b)) ht).symm
  have q1 : va_P G.2.1 vwCl ((oWs G h).set a (G.1 + a, .inl (G.2.2.1 3, n, .inr (.inr (.inr (.inr (va_up (fun j => (hR h a j).map (fun i => G.1 + i)) j (some (G.1 + b))))))))) H1 := i2.set (oWs_D G h) he (by
    show H1[G.1 + a]? = some (vp_cell _ _)
    rw [e1]
    show some ((vp_cell _ _).setSlot _ _) = _
    rw [vp_cell_q, vp_cell_q, arrV_store, g2]
    congr 2
    funext q
    by_cases hq : q = j
    · subst hq
      simp [updV, va_up, va_rf, oV]
    · simp [updV, va_up, hq]) oq
  rw [e2] at q1
  exact kk H1 _ ls (i1.put z1 oq ((oWs_D G h).2 a _ he)) q1 (by rw [z1, i3]; rfl) i4 i5
/-! what is made -/
theorem new_b {n0 n nF cells : Nat} (h0 : n0 ≤ n) (h1 : n + 1 ≤ nF) (hc : nF - n0 ≤ cells) : n - n0 + 1 ≤ cells := by omega
theorem new_s {n0 n nF slots k : Nat} (h0 : n0 ≤ n) (h1 : n + 1 ≤ nF) (hk : sl (n + 1) = sl n + k) (hc : sl nF - sl n0 ≤ slots) : sl n - sl n0 + k ≤ slots := by
  have := sl_mono h1
  have := sl_mono h0
  omega
theorem new_e {n0 n k : Nat} (h0 : n0 ≤ n) (hk : sl (n + 1) = sl n + k) : sl n - sl n0 + k = sl (n + 1) - sl n0 := by
  have := sl_mono h0
  omega
theorem new_c {n0 n : Nat} (h0 : n0 ≤ n) : n - n0 + 1 = n + 1 - n0 := by omega
theorem oWs_old {G : oG} {h : oH} {H H1 : Heap} (hP : va_P G.2.1 vwCl (oWs G h) H) (o1 : ∀ q, q < H.size → H1[q]? = H[q]?) : va_P G.2.1 vwCl (oWs G h) H1 := hP.kept fun k x hx => o1 x.1 ((hP k x hx).lt)
theorem oP_push {G : oG} {h : oH} {H1 : Heap} {e : va_E} (hP : va_P G.2.1 vwCl (oWs G h) H1) (he : e = oE G (hAl h) h.1) (ha : va_at G.2.1 vwCl (G.1 + h.1, e) H1) : va_P G.2.1 vwCl (oWs G (hAl h)) H1 := by
  rw [← oWs_push he]
  refine hP.app (fun k x hx => ?_)
  have hz : k < 1 := (List.getElem?_eq_some_iff.mp hx).1
  rw [show k = 0 by omega] at hx
  cases hx
  exact ha
theorem hAl_I (h : oH) (k : Nat) : hI (hAl h) h.1 k = 0 := if_pos rfl
theorem hAl_J (h : oH) (k : Nat) : hJ (hAl h) h.1 k = 0 := if_pos rfl
theorem hAl_R (h : oH) (k : Nat) : hR (hAl h) h.1 k = none := if_pos rfl
theorem oS_grow {A : Nat → Prop} {H0 H H1 : Heap} {locs : List Loc} (hS : va_S A H0 H locs) (hz : H.size ≤ H1.size) (o1 : ∀ q, q < H.size → H1[q]? = H[q]?) : va_S A H0 H1 locs := ⟨Nat.le_trans hS.1 hz, fun x h1 h2 => (o1 x (Nat.lt_of_lt_of_le h1 hS.1)).trans (hS.2.1 x h1 h2), hS.2.2⟩
def tyP : FieldType → Bool
  | .int => true
  | .long => true
  | .boolean => true
  | .object _ => true
  | .array _ => true
  | _ => false
theorem tyC_P {ci : Nat} (h : ci < 7) : ∀ k, k < nf ci → tyP (tyC ci k) = true := c7 (P := fun ci => ∀ k, k < nf ci → tyP (tyC ci k) = true) (by decide) (by decide) (by decide) (by decide) (by decide) (by decide) (by decide) h
theorem fv_new {G : oG} {h : oH} {ci k : Nat} (hp : tyP (tyC ci k) = true) : defaultValue (tyC ci k) = fv G ci (hAl h) h.1 k := by
  unfold fv
  rw [hAl_I, hAl_J, hAl_R]
  generalize tyC ci k = ty at hp ⊢
  cases ty <;> first | rfl | exact absurd hp Bool.false_ne_true
theorem r_new (C : oC G M n0 nF p l R s m args meth c) {ci idx : Nat} (hd : decode M.2.1 pc = .ok (.new idx, 3)) (hc7 : ci < 7) (ht : tg h.1 = (0, ci)) (hw1 : Cond.classLink M.1.cls idx (clQ ci).1 ∈ oWL) (hw2 : Cond.instantiable (clQ ci).1 (clQ ci).2.2 ∈ oWL) (hw3 : Cond.initialized (clQ ci).1 ∈ oWL) (hF : h.1 + 1 ≤ nF) (kk : oS G M p l e R s m args below meth c Z n0 (pc + 3) L (.ref h.1 :: S) (hAl h)) : oS G M p l e R s m args below meth c Z n0 pc L S h := fun H locs ls i1 i2 i3 i4 i5 => by
  obtain ⟨x1, x2, -, -, x5, x6, -, x8, hK, -, -, xB, -, -, xc, xs⟩ := C
  have hsl : sl (h.1 + 1) = sl h.1 + (clQ ci).2.2 := by rw [clQ_nf hc7]; show sl h.1 + szT (tg h.1) = _; rw [ht]; rfl
  have hKn := hK.1 ci _ (clQ_ok hc7)
  refine W.newcK x1 x2 x5 (x6 _ hw1) (x6 _ hw2) (x6 _ hw3) rfl hd (new_b i4 hF xc) (new_s i4 hF hsl xs) hKn.2.1 i3 fun H1 kC hkC e1 z1 o1 => ?_
  rw [← i3] at o1
  have q1 := oP_push (e := .inr (ci, (List.range (nf ci)).map (fv G ci (hAl h) h.1))) (oWs_old i2 o1) (oE_obj ht).symm ⟨_, clQ_ok hc7, (u_born (tyC ci) x6 (clQ_in hc7) hKn hkC e1 (clQ_ty hc7)).to (fun j hj => by
    rw [clQ_nf hc7] at hj
    show _ = vp_V _ j
    rw [vp_V, List.getD_eq_getElem?_getD, fs_get hj]
    exact fv_new (tyC_P hc7 j hj))⟩
  have k1 := kk H1 locs ls (oS_grow i1 (by rw [z1, i3]; omega) o1) q1 (by rw [z1]; rfl) (Nat.le_trans i4 (Nat.le_succ _)) i5
  rw [new_c i4, new_e i4 hsl]
  exact k1
theorem arr_cls {s : State} {cA cB : ClassId} {ty : FieldType} (h1 : s.vm.findClass ("[" ++ ty.toString) = some cA) (h2 : va_RA s cB ty) : cA = cB := by
  have h3 : s.vm.findClass ("[" ++ ty.toString) = some cB := by
    cases ty with
    | object C => obtain ⟨_, _, -, -, -, h⟩ := h2; exact h
    | _ => exact h2
  exact Option.some.inj (h1.symm.trans h3)
theorem r_newarr (C : oC G M n0 nF p l R s m args meth c) {at_ : ArrayType} {n j tt : Nat} {ty : FieldType} {x : Int32} (hd : decode M.2.1 pc = .ok (.newarray at_, 2)) (hty : newarray.typeOf at_ = ty) (hw : Cond.arrayClass ty ∈ oWL) (hj : (oTys G)[j]? = some (G.2.2.1 j, ty)) (hdf : defaultValue ty = .int 0) (hx : x.toInt = n) (hb : n * componentBytes ty ≤ 536870912) (ht : tg h.1 = (tt, n)) (htt : (tt = 1 ∧ j = 0) ∨ (tt = 2 ∧ j = 1) ∨ (tt = 3 ∧ j = 2)) (hF : h.1 + 1 ≤ nF) (kk : oS G M p l e R s m args below meth c Z n0 (pc + 2) L (.ref h.1 :: S) (hAl h)) : oS G M p l e R s m args below meth c Z n0 pc L (.int x :: S) h := fun H locs ls i1 i2 i3 i4 i5 => by
  obtain ⟨x1, x2, -, -, x5, x6, -, x8, hK, -, -, xB, -, -, xc, xs⟩ := C
  subst hty
  have hsl : sl (h.1 + 1) = sl h.1 + n := by
    show sl h.1 + szT (tg h.1) = _
    rw [ht]
    rcases htt with ⟨rfl, -⟩ | ⟨rfl, -⟩ | ⟨rfl, -⟩ <;> rfl
  obtain ⟨g1, g2⟩ := vin_of (n := n + 1) hx (Nat.lt_succ_self n)
  refine va_newaK x1 x2 (x6 _ hw) rfl hd rfl (fun q => g1 (Or.inl q)) g2 hb (new_b i4 hF xc) (new_s i4 hF hsl xs) i3 fun H1 cA e1 z1 o1 hAr hNm => ?_
  have hcA : cA = G.2.2.1 j := arr_cls hNm (hK.2 j _ hj).2
  subst hcA
  rw [← i3] at o1
  have q1 : va_P G.2.1 vwCl (oWs G (hAl h)) H1 := by
    have e0 : hI (hAl h) h.1 = fun _ => (0 : Int32) := funext fun k => hAl_I h k
    rcases htt with ⟨rfl, rfl⟩ | ⟨rfl, rfl⟩ | ⟨rfl, rfl⟩
    · refine oP_push (oWs_old i2 o1) (oE_i (h := hAl h) ht).symm ?_
      show H1[G.1 + h.1]? = some (vp_cell _ _)
      rw [e1, e0, hdf]
      rfl
    · refine oP_push (oWs_old i2 o1) (oE_b (h := hAl h) ht).symm ?_
      show H1[G.1 + h.1]? = some (vp_cell _ _)
      rw [e1, e0, hdf]
      rfl
    · refine oP_push (oWs_old i2 o1) (oE_z (h := hAl h) ht).symm ?_
      show H1[G.1 + h.1]? = some (vp_cell _ _)
      rw [e1, e0, hdf]
      rfl
  have k1 := kk H1 locs ls (oS_grow i1 (by rw [z1, i3]; omega) o1) q1 (by rw [z1]; rfl) (Nat.le_trans i4 (Nat.le_succ _)) i5
  rw [new_c i4, new_e i4 hsl]
  exact k1
theorem r_anewarr (C : oC G M n0 nF p l R s m args meth c) {idx n : Nat} {x : Int32} (hd : decode M.2.1 pc = .ok (.anewarray idx, 3)) (hw : Cond.classLink M.1.cls idx "OilRound$House" ∈ oWL) (hx : x.toInt = n) (hb : n * 4 ≤ 536870912) (ht : tg h.1 = (4, n)) (hF : h.1 + 1 ≤ nF) (kk : oS G M p l e R s m args below meth c Z n0 (pc + 3) L (.ref h.1 :: S) (hAl h)) : oS G M p l e R s m args below meth c Z n0 pc L (.int x :: S) h := fun H locs ls i1 i2 i3 i4 i5 => by
  obtain ⟨x1, x2, -, -, x5, x6, -, x8, hK, -, hXR, xB, -, -, xc, xs⟩ := C
  have hsl : sl (h.1 + 1) = sl h.1 + n := by
    show sl h.1 + szT (tg h.1) = _
    rw [ht]
    rfl
  obtain ⟨g1, g2⟩ := vin_of (n := n + 1) hx (Nat.lt_succ_self n)
  refine W.anew x1 x2 x5 (x6 _ hw) (va_AO.use hXR.2.2.2.2.1) rfl hd rfl (fun q => g1 (Or.inl q)) (by rw [g2]; exact hb) (new_b i4 hF xc) (by rw [g2]; exact new_s i4 hF hsl xs) fun cA kA comp f1 f2 f3 f4 => ?_
  have hcA : cA = G.2.2.1 3 := arr_cls f1 (hK.2 3 _ rfl).2
  subst hcA
  rw [g2]
  generalize hH1 : H.push ({ cls := G.2.2.1 3, slots := Array.replicate n .null, vm := .none } : Cell) = H1
  have z1 : H1.size = H.size + 1 := by rw [← hH1, Array.size_push]
  have e1 : H1[H.size]? = some (arrV (G.2.2.1 3) n (fun _ => .null)) := by rw [← hH1, Array.getElem?_push_size, ← arrV_new]
  have o1 : ∀ q : Nat, q < H.size → H1[q]? = H[q]? := fun q hq => by rw [← hH1, Array.getElem?_push, if_neg (Nat.ne_of_lt hq)]
  have q1 : va_P G.2.1 vwCl (oWs G (hAl h)) H1 := by
    have e0 : (fun j => (hR (hAl h) h.1 j).map (fun i => G.1 + i)) = fun _ => (none : Option Nat) := funext fun k => by rw [hAl_R]; rfl
    refine oP_push (oWs_old i2 o1) (oE_q (h := hAl h) ht).symm ?_
    show H1[G.1 + h.1]? = some (vp_cell _ _)
    rw [← i3, e1, e0]
    rfl
  have k1 := kk H1 locs ls (oS_grow i1 (by rw [z1]; omega) o1) q1 (by rw [z1, i3]; rfl) (Nat.le_trans i4 (Nat.le_succ _)) i5
  rw [new_c i4, new_e i4 hsl, i3]
  exact k1
theorem r_objInit (C : oC G M n0 nF p l R s m args meth c) {idx a : Nat} (hd : decode M.2.1 pc = .ok (.invokespecial idx, 3)) (hw : Cond.methodLink M.1.cls idx Lib.objectInit ∈ oWL) (hw2 : Cond.instanceMethod Lib.objectInit ∈ oWL) (hw3 : Cond.code Lib.objectInit ⟨#[0xb1]⟩ 1 none ∈ oWL) (hf : 1 ≤ M.2.2.2.2.1) (hl : (S.map fun v => v.category).sum + 12 ≤ M.2.2.2.2.2) (kk : oS G M p l e R s m args below meth c Z n0 (pc + 3) L S h) : oS G M p l e R s m args below meth c Z n0 pc L (.ref a :: S) h := fun H locs ls i1 i2 i3 i4 i5 => by
  have k1 := kk H locs ls i1 i2 i3 i4 i5
  obtain ⟨x1, x2, x3, x4, x5, x6, -, x8, hK, -, hXR, xB, xf, xl, xc, xs⟩ := C
  have hcat : ((S.map (oV G)).map fun v => v.category) = S.map fun v => v.category := by
    rw [List.map_map]
    exact List.map_congr_left fun v _ => oV_cat2 G v
  exact W.objInit x1 x2 x5 (x6 _ hw) (x6 _ hw2) (x6 _ hw3) rfl (by rw [x4]; exact i5.1) rfl hd (Nat.le_trans hf xf) (by show 2 * 0 + _ + 12 ≤ _; rw [hcat]; omega) (W.eq (g2 := F0 m (pc + 3) ls (S.map (oV G))) rfl k1)
/-! calls -/
theorem o_back {A1 : Heap → Prop} {mc ms : Nat} {r : Option Value} {h' : oH} {a : Array Value} {H : Heap} {locs : List Loc} {cells slots : Nat} {ls : Array Slot} {st0 rest : List Value} (hr : va_Run p l e R s m args below meth c H locs cells slots mc ms (F0 m pc ls st0) rest (oQ G r h' a) (fun q => G.1 ≤ q)) (hS : va_S (fun q => G.1 ≤ q) s.heap H locs)
    (kk : ∀ (H1 : Heap) (locs1 : List Loc), va_S (fun q => G.1 ≤ q) s.heap H1 locs1 → va_P G.2.1 vwCl (oWs G h') H1 → H1.size = G.1 + h'.1 → W p l e R s m args below meth c H1 locs1 (cells + mc) (slots + ms) Z (F0 m (pc + 3) ls ((r.map (oV G)).toList ++ rest))) : W p l e R s m args below meth c H locs cells slots Z (F0 m pc ls st0) := by
  intro T hT X
  obtain ⟨v, st₀, t, T', L, h0, X', hL, e1, e2, ⟨⟨hv, hrep⟩, hz, hk⟩, st⟩ := hr T hT X
  cases hv
  rw [h0] at hz hk
  obtain ⟨t2, a1, b1⟩ := kk T'.heap (locs ++ L)
    ⟨Nat.le_trans hS.1 (by rw [e1]; exact hz), fun q h1 h2 => by rw [e1, hk q (Nat.lt_of_lt_of_le h1 hS.1) h2]; exact hS.2.1 q h1 h2, fun q hq => by
      rcases List.mem_append.mp hq with h | h
      · exact hS.2.2 q h
      · exact hL q h⟩ (by rw [e1]; exact hrep.1) (by rw [e1]; exact hrep.2.1) T' rfl X'
  exact ⟨t2, st t2 a1, b1⟩
theorem call_n {n0 n n' : Nat} (h0 : n0 ≤ n) (h1 : n ≤ n') : n - n0 + (n' - n) = n' - n0 := by omega
theorem call_b {n0 n n' nF cells : Nat} (h0 : n0 ≤ n) (h1 : n ≤ n') (h2 : n' ≤ nF) (hc : nF - n0 ≤ cells) : n - n0 + (n' - n) ≤ cells := by omega
theorem cat_eq (G : oG) (S : List Value) : ((S.map (oV G)).map fun v => v.category) = S.map fun v => v.category := by
  rw [List.map_map]
  exact List.map_congr_left fun v _ => oV_cat2 G v
theorem rt_map (G : oG) (r : Option Value) (S : List Value) : (r.map (oV G)).toList ++ S.map (oV G) = (r.toList ++ S).map (oV G) := by cases r <;> rfl
theorem oPre (as : List Value) (h : oH) : FrameBlind (fun v U => v = (as.map (oV G)).toArray ∧ oRep G h U) := fun _ _ g mk q => ⟨q.1, q.2.calling g mk _⟩
theorem oFitR {M N : oM} {R : Room} (hf : oFit M N) (h1 : M.2.2.2.2.1 ≤ R.frames) (h2 : M.2.2.2.2.2 ≤ R.locals) {mc ms : Nat} : (oR N mc ms).frames + 1 ≤ R.frames ∧ 8 + (N.2.2.1 + 11) + (oR N mc ms).locals ≤ R.locals := ⟨Nat.le_trans hf.1 h1, Nat.le_trans hf.2 h2⟩
theorem oW_gin {N : oM} (h : oMc N) : GoodIn oWL (oW N) := wsL_gin (fun w hw => by
  rcases List.mem_cons.mp hw with rfl | hw
  · exact h.1
  · exact hw)
theorem r_callV (C : oC G M n0 nF p l R s m args meth c) {N : oM} {as' : List Value} {b n ci idx : Nat} {r : Option Value} {h' : oH} {S0 : List Value} (sp : oSp G N (.ref b :: as') h r h') (hN : oMv N) (hn : oN N n) (hl : as'.length = n) (hd : decode M.2.1 pc = .ok (.invokevirtual idx, 3)) (hw : Cond.methodLink M.1.cls idx N.1 ∈ oWL) (hft : oFit M N) (hc7 : ci < 7) (hcl : (clQ ci).1 = N.1.cls) (ht : tg b = (0, ci)) (hb : b < h.1) (hF : h'.1 ≤ nF) (hst : S0 = as'.reverse ++ .ref b :: S) (hcat : (S.map fun v => v.category).sum ≤ 8) (kk : oS G M p l e R s m args below meth c Z n0 (pc + 3) L (r.toList ++ S) h') : oS G M p l e R s m args below meth c Z n0 pc L S0 h := fun H locs ls i1 i2 i3 i4 i5 => by
  obtain ⟨hle, hM⟩ := sp
  have hrep := C.rep i1 i2 i3
  obtain ⟨x1, x2, x3, x4, x5, x6, -, x8, hK, -, hXR, xB, xf, xl, xc, xs⟩ := C
  have hsl := sl_mono hle
  have hsl0 := sl_mono i4
  have hslF := sl_mono hF
  refine o_back (mc := h'.1 - h.1) (ms := sl h'.1 - sl h.1) (rest := S.map (oV G)) (A1 := fun _ => True) (va_runV (As := as'.map (oV G)) ⟨x1, x2, x4, x5, x6⟩ (hM l) ⟨callB_of n x6 (oW_gin hN.1.1) rfl rfl rfl (x6 _ hN.1.1.2.1) (x6 _ hw) ⟨hN.1.1.2.2.1, hN.1.1.2.2.2, hn⟩ (oFitR hft xf xl), x6 _ hN.1.2, x6 _ hN.2⟩ ⟨oPre (.ref b :: as') h, ?_, fun U hU hW => ⟨rfl, hrep U hU hW⟩⟩ rfl (by rw [List.length_map]; exact hl) i5.1 (by rw [hst, List.map_append, List.map_reverse]; rfl) (lv_room (by rw [cat_eq]; exact hcat)) hd ⟨call_b i4 hle hF xc, call_b hsl0 hsl hslF xs⟩) i1 ?_
  · have hr := va_recv (va_K.sub (tys' := []) hK [] rfl) i2 (clQ_ok hc7) ((oWs_get hb).trans (congrArg (fun z => some (G.1 + b, z)) (oE_obj ht)))
    rw [hcl] at hr
    exact hr
  · intro H1 locs1 q1 q2 q3
    have k1 := kk H1 locs1 ls q1 q2 q3 (Nat.le_trans i4 hle) i5
    rw [call_n i4 hle, call_n hsl0 hsl, rt_map]
    exact k1
theorem r_callS (C : oC G M n0 nF p l R s m args meth c) {N : oM} {as' : List Value} {n idx : Nat} {r : Option Value} {h' : oH} {S0 : List Value} (sp : oSp G N as' h r h') (hN : oMs N) (hn : oN N n) (hl : as'.length = n) (hd : decode M.2.1 pc = .ok (.invokestatic idx, 3)) (hw : Cond.methodLink M.1.cls idx N.1 ∈ oWL) (hft : oFit M N) (hF : h'.1 ≤ nF) (hst : S0 = as'.reverse ++ S) (hcat : (S.map fun v => v.category).sum ≤ 8) (kk : oS G M p l e R s m args below meth c Z n0 (pc + 3) L (r.toList ++ S) h') : oS G M p l e R s m args below meth c Z n0 pc L S0 h := fun H locs ls i1 i2 i3 i4 i5 => by
  obtain ⟨hle, hM⟩ := sp
  have hrep := C.rep i1 i2 i3
  obtain ⟨x1, x2, x3, x4, x5, x6, -, x8, hK, -, hXR, xB, xf, xl, xc, xs⟩ := C
  have hsl := sl_mono hle
  have hsl0 := sl_mono i4
  have hslF := sl_mono hF
  refine o_back (mc := h'.1 - h.1) (ms := sl h'.1 - sl h.1) (rest := S.map (oV G)) (A1 := fun _ => True) (va_runS (As := as'.map (oV G)) ⟨x1, x2, x4, x5, x6⟩ (hM l) ⟨callB_of n x6 (oW_gin hN.1) rfl rfl rfl (x6 _ hN.1.2.1) (x6 _ hw) ⟨hN.1.2.2.1, hN.1.2.2.2, hn⟩ (oFitR hft xf xl), x6 _ hN.2⟩ ⟨oPre as' h, fun U hU hW => ⟨rfl, hrep U hU hW⟩⟩ rfl (by rw [List.length_map]; exact hl) i5.1 (by rw [hst, List.map_append, List.map_reverse]) (lv_room (by rw [cat_eq]; exact hcat)) hd ⟨call_b i4 hle hF xc, call_b hsl0 hsl hslF xs⟩) i1 ?_
  intro H1 locs1 q1 q2 q3
  have k1 := kk H1 locs1 ls q1 q2 q3 (Nat.le_trans i4 hle) i5
  rw [call_n i4 hle, call_n hsl0 hsl, rt_map]
  exact k1
theorem r_callSN (C : oC G M n0 nF p l R s m args meth c) {N : oM} {as' : List Value} {n idx : Nat} {r : Option Value} {h' : oH} {S0 : List Value} (sp : oSp G N as' h r h') (hN : oMs N) (hn : oN N n) (hl : as'.length = n) (hd : decode M.2.1 pc = .ok (.invokestatic idx, 3)) (hw : (M.1.cls, idx, N.1) ∈ oNestL) (hft : oFit M N) (hF : h'.1 ≤ nF) (hst : S0 = as'.reverse ++ S) (hcat : (S.map fun v => v.category).sum ≤ 8) (kk : oS G M p l e R s m args below meth c Z n0 (pc + 3) L (r.toList ++ S) h') : oS G M p l e R s m args below meth c Z n0 pc L S0 h := fun H locs ls i1 i2 i3 i4 i5 => by
  obtain ⟨hle, hM⟩ := sp
  have hrep := C.rep i1 i2 i3
  obtain ⟨x1, x2, x3, x4, x5, x6, -, x8, hK, -, hXR, xB, xf, xl, xc, xs⟩ := C
  have hsl := sl_mono hle
  have hsl0 := sl_mono i4
  have hslF := sl_mono hF
  refine o_back (mc := h'.1 - h.1) (ms := sl h'.1 - sl h.1) (rest := S.map (oV G)) (A1 := fun _ => True) (va_runSN (As := as'.map (oV G)) ⟨x1, x2, x4, x5, x6⟩ (hM l) ⟨va_cnB n x6 (oW_gin hN.1) rfl rfl rfl (hXR.2.2.2.2.2 _ hw) (x6 _ hN.1.2.1) ⟨hN.1.2.2.1, hN.1.2.2.2, hn⟩ (oFitR hft xf xl), x6 _ hN.2, trivial⟩ ⟨oPre as' h, fun U hU hW => ⟨rfl, hrep U hU hW⟩⟩ rfl (by rw [List.length_map]; exact hl) i5.1 (by rw [hst, List.map_append, List.map_reverse]) (lv_room (by rw [cat_eq]; exact hcat)) hd ⟨call_b i4 hle hF xc, call_b hsl0 hsl hslF xs⟩) i1 ?_
  intro H1 locs1 q1 q2 q3
  have k1 := kk H1 locs1 ls q1 q2 q3 (Nat.le_trans i4 hle) i5
  rw [call_n i4 hle, call_n hsl0 hsl, rt_map]
  exact k1
theorem r_callI (C : oC G M n0 nF p l R s m args meth c) {N : oM} {as' : List Value} {b n idx : Nat} {h' : oH} {S0 : List Value} (sp : oSp G N (.ref b :: as') h none h') (hN : oMi N) (hi : N.1.name = "<init>") (hr0 : N.2.2.2.1 = none) (hn : oN N n) (hl : as'.length = n) (hd : decode M.2.1 pc = .ok (.invokespecial idx, 3)) (hw : Cond.methodLink M.1.cls idx N.1 ∈ oWL) (hft : oFit M N) (hF : h'.1 ≤ nF) (hst : S0 = as'.reverse ++ .ref b :: S) (hcat : (S.map fun v => v.category).sum ≤ 8) (kk : oS G M p l e R s m args below meth c Z n0 (pc + 3) L S h') : oS G M p l e R s m args below meth c Z n0 pc L S0 h := fun H locs ls i1 i2 i3 i4 i5 => by
  obtain ⟨hle, hM⟩ := sp
  have hrep := C.rep i1 i2 i3
  obtain ⟨x1, x2, x3, x4, x5, x6, -, x8, hK, -, hXR, xB, xf, xl, xc, xs⟩ := C
  have hsl := sl_mono hle
  have hsl0 := sl_mono i4
  have hslF := sl_mono hF
  have cb := callB_of (Ts := oWL) (ws := oW N) (rm := oR N (h'.1 - h.1) (sl h'.1 - sl h.1)) n x6 (oW_gin hN.1) rfl rfl rfl (x6 _ hN.1.2.1) (x6 _ hw) ⟨hN.1.2.2.1, hN.1.2.2.2, hn⟩ (oFitR hft xf xl)
  rw [hr0] at cb
  refine o_back (mc := h'.1 - h.1) (ms := sl h'.1 - sl h.1) (rest := S.map (oV G)) (A1 := fun _ => True) (va_runI (As := as'.map (oV G)) ⟨x1, x2, x4, x5, x6⟩ (hM l) ⟨cb, hi, x6 _ hN.2⟩ ⟨oPre (.ref b :: as') h, fun U hU hW => ⟨rfl, hrep U hU hW⟩⟩ rfl (by rw [List.length_map]; exact hl) i5.1 (by rw [hst, List.map_append, List.map_reverse]; rfl) (lv_room (by rw [cat_eq]; exact hcat)) hd ⟨call_b i4 hle hF xc, call_b hsl0 hsl hslF xs⟩) i1 ?_
  intro H1 locs1 q1 q2 q3
  have k1 := kk H1 locs1 ls q1 q2 q3 (Nat.le_trans i4 hle) i5
  rw [call_n i4 hle, call_n hsl0 hsl]
  exact k1
theorem r_callIN (C : oC G M n0 nF p l R s m args meth c) {N : oM} {as' : List Value} {b n idx : Nat} {h' : oH} {S0 : List Value} (sp : oSp G N (.ref b :: as') h none h') (hN : oMi N) (hi : N.1.name = "<init>") (hr0 : N.2.2.2.1 = none) (hn : oN N n) (hl : as'.length = n) (hd : decode M.2.1 pc = .ok (.invokespecial idx, 3)) (hw : (M.1.cls, idx, N.1) ∈ oNestL) (hft : oFit M N) (hF : h'.1 ≤ nF) (hst : S0 = as'.reverse ++ .ref b :: S) (hcat : (S.map fun v => v.category).sum ≤ 8) (kk : oS G M p l e R s m args below meth c Z n0 (pc + 3) L S h') : oS G M p l e R s m args below meth c Z n0 pc L S0 h := fun H locs ls i1 i2 i3 i4 i5 => by
  obtain ⟨hle, hM⟩ := sp
  have hrep := C.rep i1 i2 i3
  obtain ⟨x1, x2, x3, x4, x5, x6, -, x8, hK, -, hXR, xB, xf, xl, xc, xs⟩ := C
  have hsl := sl_mono hle
  have hsl0 := sl_mono i4
  have hslF := sl_mono hF
  have cb := va_cnB (R := R) (s := s) (args := args) (Ts := oWL) (ws := oW N) (rm := oR N (h'.1 - h.1) (sl h'.1 - sl h.1)) n x6 (oW_gin hN.1) rfl rfl rfl (hXR.2.2.2.2.2 _ hw) (x6 _ hN.1.2.1) ⟨hN.1.2.2.1, hN.1.2.2.2, hn⟩ (oFitR hft xf xl)
  rw [hr0] at cb
  refine o_back (mc := h'.1 - h.1) (ms := sl h'.1 - sl h.1) (rest := S.map (oV G)) (A1 := fun _ => True) (va_runIN (As := as'.map (oV G)) ⟨x1, x2, x4, x5, x6⟩ (hM l) ⟨cb, hi, x6 _ hN.2⟩ ⟨oPre (.ref b :: as') h, fun U hU hW => ⟨rfl, hrep U hU hW⟩⟩ rfl (by rw [List.length_map]; exact hl) i5.1 (by rw [hst, List.map_append, List.map_reverse]; rfl) (lv_room (by rw [cat_eq]; exact hcat)) hd ⟨call_b i4 hle hF xc, call_b hsl0 hsl hslF xs⟩) i1 ?_
  intro H1 locs1 q1 q2 q3
  have k1 := kk H1 locs1 ls q1 q2 q3 (Nat.le_trans i4 hle) i5
  rw [call_n i4 hle, call_n hsl0 hsl]
  exact k1
/-! ends -/
theorem r_iret (C : oC G M n0 nF p l R s m args meth c) {v : Int32} {r : Option Value} {h' : oH} (hd : decode M.2.1 pc = .ok (.ireturn, 1)) (hr : M.2.2.2.1 = some .int) (hF : h.1 ≤ nF) (er : r = some (.int v)) (eh : h' = h) : oS G M p l e R s m args below meth c (oZ G below args s n0 nF r h') n0 pc L [.int v] h := fun H locs ls i1 i2 i3 i4 i5 => by
  subst er; subst eh
  have hrep := C.rep i1 i2 i3
  obtain ⟨x1, x2, x3, -, -, -, x7, -⟩ := C
  have hslF := sl_mono hF
  exact W.widen (k := nF - n0) (n := sl nF - sl n0) (by omega) (by omega) (W.iret (v := v) x1 x2 (x3.trans hr) (fun t ht hW => ⟨⟨rfl, hrep t ht hW⟩, i1.F ht⟩) i1.2.2 hd x7)
theorem r_zret (C : oC G M n0 nF p l R s m args meth c) {v : Int32} {ty : FieldType} {r : Option Value} {h' : oH} (hd : decode M.2.1 pc = .ok (.ireturn, 1)) (hr : M.2.2.2.1 = some ty) (hn : narrow ty (.int v) = .int v) (hF : h.1 ≤ nF) (er : r = some (.int v)) (eh : h' = h) : oS G M p l e R s m args below meth c (oZ G below args s n0 nF r h') n0 pc L [.int v] h := fun H locs ls i1 i2 i3 i4 i5 => by
  subst er; subst eh
  have hrep := C.rep i1 i2 i3
  obtain ⟨x1, x2, x3, -, -, -, x7, -⟩ := C
  have hslF := sl_mono hF
  exact W.widen (k := nF - n0) (n := sl nF - sl n0) (by omega) (by omega) (W.zret (v := v) x1 x2 (x3.trans hr) hn (fun t ht hW => ⟨⟨rfl, hrep t ht hW⟩, i1.F ht⟩) i1.2.2 hd x7)
theorem r_lret (C : oC G M n0 nF p l R s m args meth c) {v : Int64} {r : Option Value} {h' : oH} (hd : decode M.2.1 pc = .ok (.lreturn, 1)) (hr : M.2.2.2.1 = some .long) (hF : h.1 ≤ nF) (er : r = some (.long v)) (eh : h' = h) : oS G M p l e R s m args below meth c (oZ G below args s n0 nF r h') n0 pc L [.long v] h := fun H locs ls i1 i2 i3 i4 i5 => by
  subst er; subst eh
  have hrep := C.rep i1 i2 i3
  obtain ⟨x1, x2, x3, -, -, -, x7, -⟩ := C
  have hslF := sl_mono hF
  exact W.widen (k := nF - n0) (n := sl nF - sl n0) (by omega) (by omega) (W.lret (v := v) x1 x2 (x3.trans hr) (fun t ht hW => ⟨⟨rfl, hrep t ht hW⟩, i1.F ht⟩) i1.2.2 hd x7)
theorem r_vret (C : oC G M n0 nF p l R s m args meth c) {h' : oH} (hd : decode M.2.1 pc = .ok (.return_, 1)) (hr : M.2.2.2.1 = none) (hF : h.1 ≤ nF) (eh : h' = h) : oS G M p l e R s m args below meth c (oZ G below args s n0 nF none h') n0 pc L [] h := fun H locs ls i1 i2 i3 i4 i5 => by
  subst eh
  have hrep := C.rep i1 i2 i3
  obtain ⟨x1, x2, x3, -, -, -, x7, -⟩ := C
  have hslF := sl_mono hF
  exact W.widen (k := nF - n0) (n := sl nF - sl n0) (by omega) (by omega) (W.vret x1 x2 (x3.trans hr) (fun t ht hW => ⟨⟨rfl, hrep t ht hW⟩, i1.F ht⟩) i1.2.2 hd x7)
theorem r_aret (C : oC G M n0 nF p l R s m args meth c) {v : Option Nat} {N : String} {r : Option Value} {h' : oH} (hd : decode M.2.1 pc = .ok (.areturn, 1)) (hr : M.2.2.2.1 = some (.object N)) (hF : h.1 ≤ nF) (er : r = some (va_rf v)) (eh : h' = h) : oS G M p l e R s m args below meth c (oZ G below args s n0 nF r h') n0 pc L [va_rf v] h := fun H locs ls i1 i2 i3 i4 i5 => by
  subst er; subst eh
  have hrep := C.rep i1 i2 i3
  obtain ⟨x1, x2, x3, -, -, -, x7, -⟩ := C
  have hslF := sl_mono hF
  refine W.widen (k := nF - n0) (n := sl nF - sl n0) (by omega) (by omega) (W.aret (v := oV G (va_rf v)) x1 x2 (x3.trans hr) (Or.inl ⟨_, rfl⟩) ?_ (fun t ht hW => ⟨⟨rfl, hrep t ht hW⟩, i1.F ht⟩) i1.2.2 hd x7)
  cases v with
  | none => exact Or.inl rfl
  | some a => exact Or.inr ⟨_, rfl⟩
end OHEAP
end
