theorem dX0_init_0 : decode cX0_init 0 = .ok (.aload_n 0, 1) := by decide +kernel
theorem dX0_init_1 : decode cX0_init 1 = .ok (.invokespecial 3, 3) := by decide +kernel
theorem dX0_init_4 : decode cX0_init 4 = .ok (.aload_n 0, 1) := by decide +kernel
theorem dX0_init_5 : decode cX0_init 5 = .ok (.bipush 16, 2) := by decide +kernel
theorem dX0_init_7 : decode cX0_init 7 = .ok (.newarray .int, 2) := by decide +kernel
theorem dX0_init_9 : decode cX0_init 9 = .ok (.putfield 9, 3) := by decide +kernel
theorem dX0_init_12 : decode cX0_init 12 = .ok (.aload_n 0, 1) := by decide +kernel
theorem dX0_init_13 : decode cX0_init 13 = .ok (.iconst 0, 1) := by decide +kernel
theorem dX0_init_14 : decode cX0_init 14 = .ok (.putfield 15, 3) := by decide +kernel
theorem dX0_init_17 : decode cX0_init 17 = .ok (.return_, 1) := by decide +kernel
theorem dX0_emptyTrace_0 : decode cX0_emptyTrace 0 = .ok (.aload_n 0, 1) := by decide +kernel
theorem dX0_emptyTrace_1 : decode cX0_emptyTrace 1 = .ok (.iconst 0, 1) := by decide +kernel
theorem dX0_emptyTrace_2 : decode cX0_emptyTrace 2 = .ok (.putfield 15, 3) := by decide +kernel
theorem dX0_emptyTrace_5 : decode cX0_emptyTrace 5 = .ok (.return_, 1) := by decide +kernel
theorem dX0_traced_0 : decode cX0_traced 0 = .ok (.iload_n 1, 1) := by decide +kernel
theorem dX0_traced_1 : decode cX0_traced 1 = .ok (.ifCond .lt 20, 3) := by decide +kernel
theorem dX0_traced_4 : decode cX0_traced 4 = .ok (.iload_n 1, 1) := by decide +kernel
theorem dX0_traced_5 : decode cX0_traced 5 = .ok (.aload_n 0, 1) := by decide +kernel
theorem dX0_traced_6 : decode cX0_traced 6 = .ok (.getfield 15, 3) := by decide +kernel
theorem dX0_traced_9 : decode cX0_traced 9 = .ok (.if_icmp .ge 12, 3) := by decide +kernel
theorem dX0_traced_12 : decode cX0_traced 12 = .ok (.iload_n 1, 1) := by decide +kernel
theorem dX0_traced_13 : decode cX0_traced 13 = .ok (.aload_n 0, 1) := by decide +kernel
theorem dX0_traced_14 : decode cX0_traced 14 = .ok (.getfield 9, 3) := by decide +kernel
theorem dX0_traced_17 : decode cX0_traced 17 = .ok (.arraylength, 1) := by decide +kernel
theorem dX0_traced_18 : decode cX0_traced 18 = .ok (.if_icmp .lt 8, 3) := by decide +kernel
theorem dX0_traced_21 : decode cX0_traced 21 = .ok (.ldc 19, 2) := by decide +kernel
theorem dX0_traced_23 : decode cX0_traced 23 = .ok (.goto 9, 3) := by decide +kernel
theorem dX0_traced_26 : decode cX0_traced 26 = .ok (.aload_n 0, 1) := by decide +kernel
theorem dX0_traced_27 : decode cX0_traced 27 = .ok (.getfield 9, 3) := by decide +kernel
theorem dX0_traced_30 : decode cX0_traced 30 = .ok (.iload_n 1, 1) := by decide +kernel
theorem dX0_traced_31 : decode cX0_traced 31 = .ok (.iaload, 1) := by decide +kernel
theorem dX0_traced_32 : decode cX0_traced 32 = .ok (.ireturn, 1) := by decide +kernel
theorem dX0_weight_0 : decode cX0_weight 0 = .ok (.aload_n 1, 1) := by decide +kernel
theorem dX0_weight_1 : decode cX0_weight 1 = .ok (.invokevirtual 20, 3) := by decide +kernel
theorem dX0_weight_4 : decode cX0_weight 4 = .ok (.tableswitch 46 1 3 #[40, 34, 28], 28) := by decide +kernel
theorem dX0_weight_32 : decode cX0_weight 32 = .ok (.aload_n 0, 1) := by decide +kernel
theorem dX0_weight_33 : decode cX0_weight 33 = .ok (.aload_n 1, 1) := by decide +kernel
theorem dX0_weight_34 : decode cX0_weight 34 = .ok (.invokevirtual 26, 3) := by decide +kernel
theorem dX0_weight_37 : decode cX0_weight 37 = .ok (.ireturn, 1) := by decide +kernel
theorem dX0_weight_38 : decode cX0_weight 38 = .ok (.aload_n 0, 1) := by decide +kernel
theorem dX0_weight_39 : decode cX0_weight 39 = .ok (.aload_n 1, 1) := by decide +kernel
theorem dX0_weight_40 : decode cX0_weight 40 = .ok (.invokevirtual 30, 3) := by decide +kernel
theorem dX0_weight_43 : decode cX0_weight 43 = .ok (.ireturn, 1) := by decide +kernel
theorem dX0_weight_44 : decode cX0_weight 44 = .ok (.aload_n 0, 1) := by decide +kernel
theorem dX0_weight_45 : decode cX0_weight 45 = .ok (.aload_n 1, 1) := by decide +kernel
theorem dX0_weight_46 : decode cX0_weight 46 = .ok (.invokevirtual 33, 3) := by decide +kernel
theorem dX0_weight_49 : decode cX0_weight 49 = .ok (.ireturn, 1) := by decide +kernel
theorem dX0_weight_50 : decode cX0_weight 50 = .ok (.aload_n 0, 1) := by decide +kernel
theorem dX0_weight_51 : decode cX0_weight 51 = .ok (.aload_n 1, 1) := by decide +kernel
theorem dX0_weight_52 : decode cX0_weight 52 = .ok (.invokevirtual 36, 3) := by decide +kernel
theorem dX0_weight_55 : decode cX0_weight 55 = .ok (.ireturn, 1) := by decide +kernel
theorem dX0_mark_0 : decode cX0_mark 0 = .ok (.aload_n 1, 1) := by decide +kernel
theorem dX0_mark_1 : decode cX0_mark 1 = .ok (.invokevirtual 20, 3) := by decide +kernel
theorem dX0_mark_4 : decode cX0_mark 4 = .ok (.tableswitch 40 1 3 #[34, 34, 28], 28) := by decide +kernel
theorem dX0_mark_32 : decode cX0_mark 32 = .ok (.aload_n 0, 1) := by decide +kernel
theorem dX0_mark_33 : decode cX0_mark 33 = .ok (.aload_n 1, 1) := by decide +kernel
theorem dX0_mark_34 : decode cX0_mark 34 = .ok (.invokevirtual 39, 3) := by decide +kernel
theorem dX0_mark_37 : decode cX0_mark 37 = .ok (.ireturn, 1) := by decide +kernel
theorem dX0_mark_38 : decode cX0_mark 38 = .ok (.aload_n 0, 1) := by decide +kernel
theorem dX0_mark_39 : decode cX0_mark 39 = .ok (.aload_n 1, 1) := by decide +kernel
theorem dX0_mark_40 : decode cX0_mark 40 = .ok (.invokevirtual 42, 3) := by decide +kernel
theorem dX0_mark_43 : decode cX0_mark 43 = .ok (.ireturn, 1) := by decide +kernel
theorem dX0_mark_44 : decode cX0_mark 44 = .ok (.aload_n 0, 1) := by decide +kernel
theorem dX0_mark_45 : decode cX0_mark 45 = .ok (.aload_n 1, 1) := by decide +kernel
theorem dX0_mark_46 : decode cX0_mark 46 = .ok (.invokevirtual 45, 3) := by decide +kernel
theorem dX0_mark_49 : decode cX0_mark 49 = .ok (.ireturn, 1) := by decide +kernel
theorem dX0_lentWeight_0 : decode cX0_lentWeight 0 = .ok (.aload_n 0, 1) := by decide +kernel
theorem dX0_lentWeight_1 : decode cX0_lentWeight 1 = .ok (.bipush 10, 2) := by decide +kernel
theorem dX0_lentWeight_3 : decode cX0_lentWeight 3 = .ok (.invokevirtual 48, 3) := by decide +kernel
theorem dX0_lentWeight_6 : decode cX0_lentWeight 6 = .ok (.aload_n 1, 1) := by decide +kernel
theorem dX0_lentWeight_7 : decode cX0_lentWeight 7 = .ok (.getfield 52, 3) := by decide +kernel
theorem dX0_lentWeight_10 : decode cX0_lentWeight 10 = .ok (.aload_n 1, 1) := by decide +kernel
theorem dX0_lentWeight_11 : decode cX0_lentWeight 11 = .ok (.getfield 55, 3) := by decide +kernel
theorem dX0_lentWeight_14 : decode cX0_lentWeight 14 = .ok (.isub, 1) := by decide +kernel
theorem dX0_lentWeight_15 : decode cX0_lentWeight 15 = .ok (.ireturn, 1) := by decide +kernel
theorem dX0_knownWeight_0 : decode cX0_knownWeight 0 = .ok (.aload_n 0, 1) := by decide +kernel
theorem dX0_knownWeight_1 : decode cX0_knownWeight 1 = .ok (.bipush 11, 2) := by decide +kernel
theorem dX0_knownWeight_3 : decode cX0_knownWeight 3 = .ok (.invokevirtual 48, 3) := by decide +kernel
theorem dX0_knownWeight_6 : decode cX0_knownWeight 6 = .ok (.aload_n 0, 1) := by decide +kernel
theorem dX0_knownWeight_7 : decode cX0_knownWeight 7 = .ok (.aload_n 1, 1) := by decide +kernel
theorem dX0_knownWeight_8 : decode cX0_knownWeight 8 = .ok (.invokevirtual 36, 3) := by decide +kernel
theorem dX0_knownWeight_11 : decode cX0_knownWeight 11 = .ok (.aload_n 1, 1) := by decide +kernel
theorem dX0_knownWeight_12 : decode cX0_knownWeight 12 = .ok (.getfield 58, 3) := by decide +kernel
theorem dX0_knownWeight_15 : decode cX0_knownWeight 15 = .ok (.iadd, 1) := by decide +kernel
theorem dX0_knownWeight_16 : decode cX0_knownWeight 16 = .ok (.ireturn, 1) := by decide +kernel
theorem dX0_steadyWeight_0 : decode cX0_steadyWeight 0 = .ok (.aload_n 0, 1) := by decide +kernel
theorem dX0_steadyWeight_1 : decode cX0_steadyWeight 1 = .ok (.bipush 12, 2) := by decide +kernel
theorem dX0_steadyWeight_3 : decode cX0_steadyWeight 3 = .ok (.invokevirtual 48, 3) := by decide +kernel
theorem dX0_steadyWeight_6 : decode cX0_steadyWeight 6 = .ok (.aload_n 0, 1) := by decide +kernel
theorem dX0_steadyWeight_7 : decode cX0_steadyWeight 7 = .ok (.aload_n 1, 1) := by decide +kernel
theorem dX0_steadyWeight_8 : decode cX0_steadyWeight 8 = .ok (.invokevirtual 33, 3) := by decide +kernel
theorem dX0_steadyWeight_11 : decode cX0_steadyWeight 11 = .ok (.aload_n 1, 1) := by decide +kernel
theorem dX0_steadyWeight_12 : decode cX0_steadyWeight 12 = .ok (.getfield 61, 3) := by decide +kernel
theorem dX0_steadyWeight_15 : decode cX0_steadyWeight 15 = .ok (.iadd, 1) := by decide +kernel
theorem dX0_steadyWeight_16 : decode cX0_steadyWeight 16 = .ok (.ireturn, 1) := by decide +kernel
theorem dX0_leakyWeight_0 : decode cX0_leakyWeight 0 = .ok (.aload_n 0, 1) := by decide +kernel
theorem dX0_leakyWeight_1 : decode cX0_leakyWeight 1 = .ok (.bipush 13, 2) := by decide +kernel
theorem dX0_leakyWeight_3 : decode cX0_leakyWeight 3 = .ok (.invokevirtual 48, 3) := by decide +kernel
theorem dX0_leakyWeight_6 : decode cX0_leakyWeight 6 = .ok (.aload_n 0, 1) := by decide +kernel
theorem dX0_leakyWeight_7 : decode cX0_leakyWeight 7 = .ok (.aload_n 1, 1) := by decide +kernel
theorem dX0_leakyWeight_8 : decode cX0_leakyWeight 8 = .ok (.invokevirtual 36, 3) := by decide +kernel
theorem dX0_leakyWeight_11 : decode cX0_leakyWeight 11 = .ok (.sipush 5000, 3) := by decide +kernel
theorem dX0_leakyWeight_14 : decode cX0_leakyWeight 14 = .ok (.iadd, 1) := by decide +kernel
theorem dX0_leakyWeight_15 : decode cX0_leakyWeight 15 = .ok (.ireturn, 1) := by decide +kernel
theorem dX0_lentMark_0 : decode cX0_lentMark 0 = .ok (.aload_n 0, 1) := by decide +kernel
theorem dX0_lentMark_1 : decode cX0_lentMark 1 = .ok (.bipush 20, 2) := by decide +kernel
theorem dX0_lentMark_3 : decode cX0_lentMark 3 = .ok (.invokevirtual 48, 3) := by decide +kernel
theorem dX0_lentMark_6 : decode cX0_lentMark 6 = .ok (.aload_n 1, 1) := by decide +kernel
theorem dX0_lentMark_7 : decode cX0_lentMark 7 = .ok (.getfield 64, 3) := by decide +kernel
theorem dX0_lentMark_10 : decode cX0_lentMark 10 = .ok (.ireturn, 1) := by decide +kernel
theorem dX0_knownMark_0 : decode cX0_knownMark 0 = .ok (.aload_n 0, 1) := by decide +kernel
theorem dX0_knownMark_1 : decode cX0_knownMark 1 = .ok (.bipush 21, 2) := by decide +kernel
theorem dX0_knownMark_3 : decode cX0_knownMark 3 = .ok (.invokevirtual 48, 3) := by decide +kernel
theorem dX0_knownMark_6 : decode cX0_knownMark 6 = .ok (.aload_n 0, 1) := by decide +kernel
theorem dX0_knownMark_7 : decode cX0_knownMark 7 = .ok (.aload_n 1, 1) := by decide +kernel
theorem dX0_knownMark_8 : decode cX0_knownMark 8 = .ok (.invokevirtual 45, 3) := by decide +kernel
theorem dX0_knownMark_11 : decode cX0_knownMark 11 = .ok (.aload_n 0, 1) := by decide +kernel
theorem dX0_knownMark_12 : decode cX0_knownMark 12 = .ok (.aload_n 1, 1) := by decide +kernel
theorem dX0_knownMark_13 : decode cX0_knownMark 13 = .ok (.invokevirtual 67, 3) := by decide +kernel
theorem dX0_knownMark_16 : decode cX0_knownMark 16 = .ok (.iadd, 1) := by decide +kernel
theorem dX0_knownMark_17 : decode cX0_knownMark 17 = .ok (.ireturn, 1) := by decide +kernel
theorem dX0_leakyMark_0 : decode cX0_leakyMark 0 = .ok (.aload_n 0, 1) := by decide +kernel
theorem dX0_leakyMark_1 : decode cX0_leakyMark 1 = .ok (.bipush 22, 2) := by decide +kernel
theorem dX0_leakyMark_3 : decode cX0_leakyMark 3 = .ok (.invokevirtual 48, 3) := by decide +kernel
theorem dX0_leakyMark_6 : decode cX0_leakyMark 6 = .ok (.aload_n 0, 1) := by decide +kernel
theorem dX0_leakyMark_7 : decode cX0_leakyMark 7 = .ok (.aload_n 1, 1) := by decide +kernel
theorem dX0_leakyMark_8 : decode cX0_leakyMark 8 = .ok (.invokevirtual 45, 3) := by decide +kernel
theorem dX0_leakyMark_11 : decode cX0_leakyMark 11 = .ok (.aload_n 0, 1) := by decide +kernel
theorem dX0_leakyMark_12 : decode cX0_leakyMark 12 = .ok (.aload_n 1, 1) := by decide +kernel
theorem dX0_leakyMark_13 : decode cX0_leakyMark 13 = .ok (.invokevirtual 67, 3) := by decide +kernel
theorem dX0_leakyMark_16 : decode cX0_leakyMark 16 = .ok (.isub, 1) := by decide +kernel
theorem dX0_leakyMark_17 : decode cX0_leakyMark 17 = .ok (.ireturn, 1) := by decide +kernel
theorem dX0_begin_0 : decode cX0_begin 0 = .ok (.aload_n 0, 1) := by decide +kernel
theorem dX0_begin_1 : decode cX0_begin 1 = .ok (.getfield 15, 3) := by decide +kernel
theorem dX0_begin_4 : decode cX0_begin 4 = .ok (.ifCond .lt 15, 3) := by decide +kernel
theorem dX0_begin_7 : decode cX0_begin 7 = .ok (.aload_n 0, 1) := by decide +kernel
theorem dX0_begin_8 : decode cX0_begin 8 = .ok (.getfield 15, 3) := by decide +kernel
theorem dX0_begin_11 : decode cX0_begin 11 = .ok (.aload_n 0, 1) := by decide +kernel
theorem dX0_begin_12 : decode cX0_begin 12 = .ok (.getfield 9, 3) := by decide +kernel
theorem dX0_begin_15 : decode cX0_begin 15 = .ok (.arraylength, 1) := by decide +kernel
theorem dX0_begin_16 : decode cX0_begin 16 = .ok (.if_icmp .lt 4, 3) := by decide +kernel
theorem dX0_begin_19 : decode cX0_begin 19 = .ok (.return_, 1) := by decide +kernel
theorem dX0_begin_20 : decode cX0_begin 20 = .ok (.aload_n 0, 1) := by decide +kernel
theorem dX0_begin_21 : decode cX0_begin 21 = .ok (.getfield 9, 3) := by decide +kernel
theorem dX0_begin_24 : decode cX0_begin 24 = .ok (.aload_n 0, 1) := by decide +kernel
theorem dX0_begin_25 : decode cX0_begin 25 = .ok (.getfield 15, 3) := by decide +kernel
theorem dX0_begin_28 : decode cX0_begin 28 = .ok (.iload_n 1, 1) := by decide +kernel
theorem dX0_begin_29 : decode cX0_begin 29 = .ok (.iastore, 1) := by decide +kernel
theorem dX0_begin_30 : decode cX0_begin 30 = .ok (.aload_n 0, 1) := by decide +kernel
theorem dX0_begin_31 : decode cX0_begin 31 = .ok (.dup, 1) := by decide +kernel
theorem dX0_begin_32 : decode cX0_begin 32 = .ok (.getfield 15, 3) := by decide +kernel
theorem dX0_begin_35 : decode cX0_begin 35 = .ok (.iconst 1, 1) := by decide +kernel
theorem dX0_begin_36 : decode cX0_begin 36 = .ok (.iadd, 1) := by decide +kernel
theorem dX0_begin_37 : decode cX0_begin 37 = .ok (.putfield 15, 3) := by decide +kernel
theorem dX0_begin_40 : decode cX0_begin 40 = .ok (.return_, 1) := by decide +kernel
theorem dX1_init_0 : decode cX1_init 0 = .ok (.aload_n 0, 1) := by decide +kernel
theorem dX1_init_1 : decode cX1_init 1 = .ok (.invokespecial 3, 3) := by decide +kernel
theorem dX1_init_4 : decode cX1_init 4 = .ok (.aload_n 0, 1) := by decide +kernel
theorem dX1_init_5 : decode cX1_init 5 = .ok (.new 9, 3) := by decide +kernel
theorem dX1_init_8 : decode cX1_init 8 = .ok (.dup, 1) := by decide +kernel
theorem dX1_init_9 : decode cX1_init 9 = .ok (.invokespecial 11, 3) := by decide +kernel
theorem dX1_init_12 : decode cX1_init 12 = .ok (.putfield 12, 3) := by decide +kernel
theorem dX1_init_15 : decode cX1_init 15 = .ok (.aload_n 0, 1) := by decide +kernel
theorem dX1_init_16 : decode cX1_init 16 = .ok (.iconst 0, 1) := by decide +kernel
theorem dX1_init_17 : decode cX1_init 17 = .ok (.putfield 18, 3) := by decide +kernel
theorem dX1_init_20 : decode cX1_init 20 = .ok (.aload_n 0, 1) := by decide +kernel
theorem dX1_init_21 : decode cX1_init 21 = .ok (.iconst 0, 1) := by decide +kernel
theorem dX1_init_22 : decode cX1_init 22 = .ok (.putfield 22, 3) := by decide +kernel
theorem dX1_init_25 : decode cX1_init 25 = .ok (.aload_n 0, 1) := by decide +kernel
theorem dX1_init_26 : decode cX1_init 26 = .ok (.bipush 50, 2) := by decide +kernel
theorem dX1_init_28 : decode cX1_init 28 = .ok (.putfield 25, 3) := by decide +kernel
theorem dX1_init_31 : decode cX1_init 31 = .ok (.aload_n 0, 1) := by decide +kernel
theorem dX1_init_32 : decode cX1_init 32 = .ok (.bipush 50, 2) := by decide +kernel
theorem dX1_init_34 : decode cX1_init 34 = .ok (.putfield 28, 3) := by decide +kernel
theorem dX1_init_37 : decode cX1_init 37 = .ok (.aload_n 0, 1) := by decide +kernel
theorem dX1_init_38 : decode cX1_init 38 = .ok (.iconst 0, 1) := by decide +kernel
theorem dX1_init_39 : decode cX1_init 39 = .ok (.putfield 31, 3) := by decide +kernel
theorem dX1_init_42 : decode cX1_init 42 = .ok (.aload_n 0, 1) := by decide +kernel
theorem dX1_init_43 : decode cX1_init 43 = .ok (.iconst 0, 1) := by decide +kernel
theorem dX1_init_44 : decode cX1_init 44 = .ok (.putfield 34, 3) := by decide +kernel
theorem dX1_init_47 : decode cX1_init 47 = .ok (.aload_n 0, 1) := by decide +kernel
theorem dX1_init_48 : decode cX1_init 48 = .ok (.iconst 0, 1) := by decide +kernel
theorem dX1_init_49 : decode cX1_init 49 = .ok (.putfield 37, 3) := by decide +kernel
theorem dX1_init_52 : decode cX1_init 52 = .ok (.aload_n 0, 1) := by decide +kernel
theorem dX1_init_53 : decode cX1_init 53 = .ok (.iconst 0, 1) := by decide +kernel
theorem dX1_init_54 : decode cX1_init 54 = .ok (.putfield 41, 3) := by decide +kernel
theorem dX1_init_57 : decode cX1_init 57 = .ok (.aload_n 0, 1) := by decide +kernel
theorem dX1_init_58 : decode cX1_init 58 = .ok (.iconst 0, 1) := by decide +kernel
theorem dX1_init_59 : decode cX1_init 59 = .ok (.putfield 44, 3) := by decide +kernel
theorem dX1_init_62 : decode cX1_init 62 = .ok (.aload_n 0, 1) := by decide +kernel
theorem dX1_init_63 : decode cX1_init 63 = .ok (.iload_n 1, 1) := by decide +kernel
theorem dX1_init_64 : decode cX1_init 64 = .ok (.putfield 47, 3) := by decide +kernel
theorem dX1_init_67 : decode cX1_init 67 = .ok (.aload_n 0, 1) := by decide +kernel
theorem dX1_init_68 : decode cX1_init 68 = .ok (.iload_n 2, 1) := by decide +kernel
theorem dX1_init_69 : decode cX1_init 69 = .ok (.putfield 50, 3) := by decide +kernel
theorem dX1_init_72 : decode cX1_init 72 = .ok (.aload_n 0, 1) := by decide +kernel
theorem dX1_init_73 : decode cX1_init 73 = .ok (.iload_n 3, 1) := by decide +kernel
theorem dX1_init_74 : decode cX1_init 74 = .ok (.putfield 53, 3) := by decide +kernel
theorem dX1_init_77 : decode cX1_init 77 = .ok (.aload_n 0, 1) := by decide +kernel
theorem dX1_init_78 : decode cX1_init 78 = .ok (.iload_n 3, 1) := by decide +kernel
theorem dX1_init_79 : decode cX1_init 79 = .ok (.putfield 56, 3) := by decide +kernel
theorem dX1_init_82 : decode cX1_init 82 = .ok (.aload_n 0, 1) := by decide +kernel
theorem dX1_init_83 : decode cX1_init 83 = .ok (.iload_n 3, 1) := by decide +kernel
theorem dX1_init_84 : decode cX1_init 84 = .ok (.putfield 59, 3) := by decide +kernel
theorem dX1_init_87 : decode cX1_init 87 = .ok (.return_, 1) := by decide +kernel
theorem dX1_low_0 : decode cX1_low 0 = .ok (.aload_n 0, 1) := by decide +kernel
theorem dX1_low_1 : decode cX1_low 1 = .ok (.getfield 18, 3) := by decide +kernel
theorem dX1_low_4 : decode cX1_low 4 = .ok (.aload_n 0, 1) := by decide +kernel
theorem dX1_low_5 : decode cX1_low 5 = .ok (.getfield 22, 3) := by decide +kernel
theorem dX1_low_8 : decode cX1_low 8 = .ok (.iload_n 1, 1) := by decide +kernel
theorem dX1_low_9 : decode cX1_low 9 = .ok (.imul, 1) := by decide +kernel
theorem dX1_low_10 : decode cX1_low 10 = .ok (.iadd, 1) := by decide +kernel
theorem dX1_low_11 : decode cX1_low 11 = .ok (.ireturn, 1) := by decide +kernel
theorem dX1_high_0 : decode cX1_high 0 = .ok (.aload_n 0, 1) := by decide +kernel
theorem dX1_high_1 : decode cX1_high 1 = .ok (.getfield 25, 3) := by decide +kernel
theorem dX1_high_4 : decode cX1_high 4 = .ok (.aload_n 0, 1) := by decide +kernel
theorem dX1_high_5 : decode cX1_high 5 = .ok (.getfield 28, 3) := by decide +kernel
theorem dX1_high_8 : decode cX1_high 8 = .ok (.iload_n 1, 1) := by decide +kernel
theorem dX1_high_9 : decode cX1_high 9 = .ok (.imul, 1) := by decide +kernel
theorem dX1_high_10 : decode cX1_high 10 = .ok (.iadd, 1) := by decide +kernel
theorem dX1_high_11 : decode cX1_high 11 = .ok (.ireturn, 1) := by decide +kernel
theorem dX1_endDay_0 : decode cX1_endDay 0 = .ok (.aload_n 0, 1) := by decide +kernel
theorem dX1_endDay_1 : decode cX1_endDay 1 = .ok (.iconst 0, 1) := by decide +kernel
theorem dX1_endDay_2 : decode cX1_endDay 2 = .ok (.aload_n 0, 1) := by decide +kernel
theorem dX1_endDay_3 : decode cX1_endDay 3 = .ok (.getfield 56, 3) := by decide +kernel
theorem dX1_endDay_6 : decode cX1_endDay 6 = .ok (.aload_n 0, 1) := by decide +kernel
theorem dX1_endDay_7 : decode cX1_endDay 7 = .ok (.iload_n 1, 1) := by decide +kernel
theorem dX1_endDay_8 : decode cX1_endDay 8 = .ok (.invokevirtual 62, 3) := by decide +kernel
theorem dX1_endDay_11 : decode cX1_endDay 11 = .ok (.isub, 1) := by decide +kernel
theorem dX1_endDay_12 : decode cX1_endDay 12 = .ok (.invokestatic 66, 3) := by decide +kernel
theorem dX1_endDay_15 : decode cX1_endDay 15 = .ok (.putfield 56, 3) := by decide +kernel
theorem dX1_endDay_18 : decode cX1_endDay 18 = .ok (.aload_n 0, 1) := by decide +kernel
theorem dX1_endDay_19 : decode cX1_endDay 19 = .ok (.iconst 0, 1) := by decide +kernel
theorem dX1_endDay_20 : decode cX1_endDay 20 = .ok (.aload_n 0, 1) := by decide +kernel
theorem dX1_endDay_21 : decode cX1_endDay 21 = .ok (.getfield 59, 3) := by decide +kernel
theorem dX1_endDay_24 : decode cX1_endDay 24 = .ok (.aload_n 0, 1) := by decide +kernel
theorem dX1_endDay_25 : decode cX1_endDay 25 = .ok (.iload_n 1, 1) := by decide +kernel
theorem dX1_endDay_26 : decode cX1_endDay 26 = .ok (.invokevirtual 72, 3) := by decide +kernel
theorem dX1_endDay_29 : decode cX1_endDay 29 = .ok (.isub, 1) := by decide +kernel
theorem dX1_endDay_30 : decode cX1_endDay 30 = .ok (.invokestatic 66, 3) := by decide +kernel
theorem dX1_endDay_33 : decode cX1_endDay 33 = .ok (.putfield 59, 3) := by decide +kernel
theorem dX1_endDay_36 : decode cX1_endDay 36 = .ok (.aload_n 0, 1) := by decide +kernel
theorem dX1_endDay_37 : decode cX1_endDay 37 = .ok (.dup, 1) := by decide +kernel
theorem dX1_endDay_38 : decode cX1_endDay 38 = .ok (.getfield 41, 3) := by decide +kernel
theorem dX1_endDay_41 : decode cX1_endDay 41 = .ok (.iconst 1, 1) := by decide +kernel
theorem dX1_endDay_42 : decode cX1_endDay 42 = .ok (.iadd, 1) := by decide +kernel
theorem dX1_endDay_43 : decode cX1_endDay 43 = .ok (.putfield 41, 3) := by decide +kernel
theorem dX1_endDay_46 : decode cX1_endDay 46 = .ok (.aload_n 0, 1) := by decide +kernel
theorem dX1_endDay_47 : decode cX1_endDay 47 = .ok (.dup, 1) := by decide +kernel
theorem dX1_endDay_48 : decode cX1_endDay 48 = .ok (.getfield 44, 3) := by decide +kernel
theorem dX1_endDay_51 : decode cX1_endDay 51 = .ok (.iload_n 1, 1) := by decide +kernel
theorem dX1_endDay_52 : decode cX1_endDay 52 = .ok (.iadd, 1) := by decide +kernel
theorem dX1_endDay_53 : decode cX1_endDay 53 = .ok (.putfield 44, 3) := by decide +kernel
theorem dX1_endDay_56 : decode cX1_endDay 56 = .ok (.return_, 1) := by decide +kernel
theorem dX1_isSafe_0 : decode cX1_isSafe 0 = .ok (.aload_n 0, 1) := by decide +kernel
theorem dX1_isSafe_1 : decode cX1_isSafe 1 = .ok (.getfield 59, 3) := by decide +kernel
theorem dX1_isSafe_4 : decode cX1_isSafe 4 = .ok (.ifCond .le 7, 3) := by decide +kernel
theorem dX1_isSafe_7 : decode cX1_isSafe 7 = .ok (.iconst 1, 1) := by decide +kernel
theorem dX1_isSafe_8 : decode cX1_isSafe 8 = .ok (.goto 4, 3) := by decide +kernel
theorem dX1_isSafe_11 : decode cX1_isSafe 11 = .ok (.iconst 0, 1) := by decide +kernel
theorem dX1_isSafe_12 : decode cX1_isSafe 12 = .ok (.ireturn, 1) := by decide +kernel
theorem dX1_isDue_0 : decode cX1_isDue 0 = .ok (.aload_n 0, 1) := by decide +kernel
theorem dX1_isDue_1 : decode cX1_isDue 1 = .ok (.getfield 59, 3) := by decide +kernel
theorem dX1_isDue_4 : decode cX1_isDue 4 = .ok (.iload_n 1, 1) := by decide +kernel
theorem dX1_isDue_5 : decode cX1_isDue 5 = .ok (.aload_n 0, 1) := by decide +kernel
theorem dX1_isDue_6 : decode cX1_isDue 6 = .ok (.iload_n 2, 1) := by decide +kernel
theorem dX1_isDue_7 : decode cX1_isDue 7 = .ok (.invokevirtual 72, 3) := by decide +kernel
theorem dX1_isDue_10 : decode cX1_isDue 10 = .ok (.imul, 1) := by decide +kernel
theorem dX1_isDue_11 : decode cX1_isDue 11 = .ok (.if_icmp .gt 7, 3) := by decide +kernel
theorem dX1_isDue_14 : decode cX1_isDue 14 = .ok (.iconst 1, 1) := by decide +kernel
theorem dX1_isDue_15 : decode cX1_isDue 15 = .ok (.goto 4, 3) := by decide +kernel
theorem dX1_isDue_18 : decode cX1_isDue 18 = .ok (.iconst 0, 1) := by decide +kernel
theorem dX1_isDue_19 : decode cX1_isDue 19 = .ok (.ireturn, 1) := by decide +kernel
theorem dX1_daysToGo_0 : decode cX1_daysToGo 0 = .ok (.aload_n 0, 1) := by decide +kernel
theorem dX1_daysToGo_1 : decode cX1_daysToGo 1 = .ok (.iload_n 1, 1) := by decide +kernel
theorem dX1_daysToGo_2 : decode cX1_daysToGo 2 = .ok (.invokevirtual 72, 3) := by decide +kernel
theorem dX1_daysToGo_5 : decode cX1_daysToGo 5 = .ok (.istore_n 2, 1) := by decide +kernel
theorem dX1_daysToGo_6 : decode cX1_daysToGo 6 = .ok (.iload_n 2, 1) := by decide +kernel
theorem dX1_daysToGo_7 : decode cX1_daysToGo 7 = .ok (.ifCond .gt 9, 3) := by decide +kernel
theorem dX1_daysToGo_10 : decode cX1_daysToGo 10 = .ok (.sipush 1000, 3) := by decide +kernel
theorem dX1_daysToGo_13 : decode cX1_daysToGo 13 = .ok (.goto 9, 3) := by decide +kernel
theorem dX1_daysToGo_16 : decode cX1_daysToGo 16 = .ok (.aload_n 0, 1) := by decide +kernel
theorem dX1_daysToGo_17 : decode cX1_daysToGo 17 = .ok (.getfield 59, 3) := by decide +kernel
theorem dX1_daysToGo_20 : decode cX1_daysToGo 20 = .ok (.iload_n 2, 1) := by decide +kernel
theorem dX1_daysToGo_21 : decode cX1_daysToGo 21 = .ok (.idiv, 1) := by decide +kernel
theorem dX1_daysToGo_22 : decode cX1_daysToGo 22 = .ok (.ireturn, 1) := by decide +kernel
theorem dX1_daysAboveZero_0 : decode cX1_daysAboveZero 0 = .ok (.aload_n 0, 1) := by decide +kernel
theorem dX1_daysAboveZero_1 : decode cX1_daysAboveZero 1 = .ok (.getfield 59, 3) := by decide +kernel
theorem dX1_daysAboveZero_4 : decode cX1_daysAboveZero 4 = .ok (.ifCond .gt 5, 3) := by decide +kernel
theorem dX1_daysAboveZero_7 : decode cX1_daysAboveZero 7 = .ok (.iconst 0, 1) := by decide +kernel
theorem dX1_daysAboveZero_8 : decode cX1_daysAboveZero 8 = .ok (.ireturn, 1) := by decide +kernel
theorem dX1_daysAboveZero_9 : decode cX1_daysAboveZero 9 = .ok (.aload_n 0, 1) := by decide +kernel
theorem dX1_daysAboveZero_10 : decode cX1_daysAboveZero 10 = .ok (.iload_n 1, 1) := by decide +kernel
theorem dX1_daysAboveZero_11 : decode cX1_daysAboveZero 11 = .ok (.invokevirtual 72, 3) := by decide +kernel
theorem dX1_daysAboveZero_14 : decode cX1_daysAboveZero 14 = .ok (.istore_n 2, 1) := by decide +kernel
theorem dX1_daysAboveZero_15 : decode cX1_daysAboveZero 15 = .ok (.iload_n 2, 1) := by decide +kernel
theorem dX1_daysAboveZero_16 : decode cX1_daysAboveZero 16 = .ok (.ifCond .gt 9, 3) := by decide +kernel
theorem dX1_daysAboveZero_19 : decode cX1_daysAboveZero 19 = .ok (.sipush 500, 3) := by decide +kernel
theorem dX1_daysAboveZero_22 : decode cX1_daysAboveZero 22 = .ok (.goto 17, 3) := by decide +kernel
theorem dX1_daysAboveZero_25 : decode cX1_daysAboveZero 25 = .ok (.sipush 500, 3) := by decide +kernel
theorem dX1_daysAboveZero_28 : decode cX1_daysAboveZero 28 = .ok (.aload_n 0, 1) := by decide +kernel
theorem dX1_daysAboveZero_29 : decode cX1_daysAboveZero 29 = .ok (.getfield 59, 3) := by decide +kernel
theorem dX1_daysAboveZero_32 : decode cX1_daysAboveZero 32 = .ok (.iconst 1, 1) := by decide +kernel
theorem dX1_daysAboveZero_33 : decode cX1_daysAboveZero 33 = .ok (.isub, 1) := by decide +kernel
theorem dX1_daysAboveZero_34 : decode cX1_daysAboveZero 34 = .ok (.iload_n 2, 1) := by decide +kernel
theorem dX1_daysAboveZero_35 : decode cX1_daysAboveZero 35 = .ok (.idiv, 1) := by decide +kernel
theorem dX1_daysAboveZero_36 : decode cX1_daysAboveZero 36 = .ok (.invokestatic 75, 3) := by decide +kernel
theorem dX1_daysAboveZero_39 : decode cX1_daysAboveZero 39 = .ok (.ireturn, 1) := by decide +kernel
theorem dX1_mayNeed_0 : decode cX1_mayNeed 0 = .ok (.aload_n 0, 1) := by decide +kernel
theorem dX1_mayNeed_1 : decode cX1_mayNeed 1 = .ok (.getfield 53, 3) := by decide +kernel
theorem dX1_mayNeed_4 : decode cX1_mayNeed 4 = .ok (.aload_n 0, 1) := by decide +kernel
theorem dX1_mayNeed_5 : decode cX1_mayNeed 5 = .ok (.getfield 59, 3) := by decide +kernel
theorem dX1_mayNeed_8 : decode cX1_mayNeed 8 = .ok (.isub, 1) := by decide +kernel
theorem dX1_mayNeed_9 : decode cX1_mayNeed 9 = .ok (.ireturn, 1) := by decide +kernel
theorem dX1_takeFill_0 : decode cX1_takeFill 0 = .ok (.aload_n 0, 1) := by decide +kernel
theorem dX1_takeFill_1 : decode cX1_takeFill 1 = .ok (.aload_n 0, 1) := by decide +kernel
theorem dX1_takeFill_2 : decode cX1_takeFill 2 = .ok (.iload_n 1, 1) := by decide +kernel
theorem dX1_takeFill_3 : decode cX1_takeFill 3 = .ok (.invokevirtual 78, 3) := by decide +kernel
theorem dX1_takeFill_6 : decode cX1_takeFill 6 = .ok (.putfield 34, 3) := by decide +kernel
theorem dX1_takeFill_9 : decode cX1_takeFill 9 = .ok (.aload_n 0, 1) := by decide +kernel
theorem dX1_takeFill_10 : decode cX1_takeFill 10 = .ok (.getfield 34, 3) := by decide +kernel
theorem dX1_takeFill_13 : decode cX1_takeFill 13 = .ok (.ifCond .eq 11, 3) := by decide +kernel
theorem dX1_takeFill_16 : decode cX1_takeFill 16 = .ok (.aload_n 0, 1) := by decide +kernel
theorem dX1_takeFill_17 : decode cX1_takeFill 17 = .ok (.iconst 1, 1) := by decide +kernel
theorem dX1_takeFill_18 : decode cX1_takeFill 18 = .ok (.putfield 37, 3) := by decide +kernel
theorem dX1_takeFill_21 : decode cX1_takeFill 21 = .ok (.goto 24, 3) := by decide +kernel
theorem dX1_takeFill_24 : decode cX1_takeFill 24 = .ok (.iload_n 1, 1) := by decide +kernel
theorem dX1_takeFill_25 : decode cX1_takeFill 25 = .ok (.aload_n 0, 1) := by decide +kernel
theorem dX1_takeFill_26 : decode cX1_takeFill 26 = .ok (.getfield 53, 3) := by decide +kernel
theorem dX1_takeFill_29 : decode cX1_takeFill 29 = .ok (.if_icmp .ge 16, 3) := by decide +kernel
theorem dX1_takeFill_32 : decode cX1_takeFill 32 = .ok (.aload_n 0, 1) := by decide +kernel
theorem dX1_takeFill_33 : decode cX1_takeFill 33 = .ok (.getfield 41, 3) := by decide +kernel
theorem dX1_takeFill_36 : decode cX1_takeFill 36 = .ok (.iconst 1, 1) := by decide +kernel
theorem dX1_takeFill_37 : decode cX1_takeFill 37 = .ok (.if_icmp .lt 8, 3) := by decide +kernel
theorem dX1_takeFill_40 : decode cX1_takeFill 40 = .ok (.aload_n 0, 1) := by decide +kernel
theorem dX1_takeFill_41 : decode cX1_takeFill 41 = .ok (.iload_n 1, 1) := by decide +kernel
theorem dX1_takeFill_42 : decode cX1_takeFill 42 = .ok (.invokevirtual 81, 3) := by decide +kernel
theorem dX1_takeFill_45 : decode cX1_takeFill 45 = .ok (.aload_n 0, 1) := by decide +kernel
theorem dX1_takeFill_46 : decode cX1_takeFill 46 = .ok (.dup, 1) := by decide +kernel
theorem dX1_takeFill_47 : decode cX1_takeFill 47 = .ok (.getfield 31, 3) := by decide +kernel
theorem dX1_takeFill_50 : decode cX1_takeFill 50 = .ok (.iconst 1, 1) := by decide +kernel
theorem dX1_takeFill_51 : decode cX1_takeFill 51 = .ok (.iadd, 1) := by decide +kernel
theorem dX1_takeFill_52 : decode cX1_takeFill 52 = .ok (.putfield 31, 3) := by decide +kernel
theorem dX1_takeFill_55 : decode cX1_takeFill 55 = .ok (.aload_n 0, 1) := by decide +kernel
theorem dX1_takeFill_56 : decode cX1_takeFill 56 = .ok (.aload_n 0, 1) := by decide +kernel
theorem dX1_takeFill_57 : decode cX1_takeFill 57 = .ok (.getfield 53, 3) := by decide +kernel
theorem dX1_takeFill_60 : decode cX1_takeFill 60 = .ok (.putfield 56, 3) := by decide +kernel
theorem dX1_takeFill_63 : decode cX1_takeFill 63 = .ok (.aload_n 0, 1) := by decide +kernel
theorem dX1_takeFill_64 : decode cX1_takeFill 64 = .ok (.aload_n 0, 1) := by decide +kernel
theorem dX1_takeFill_65 : decode cX1_takeFill 65 = .ok (.getfield 53, 3) := by decide +kernel
theorem dX1_takeFill_68 : decode cX1_takeFill 68 = .ok (.putfield 59, 3) := by decide +kernel
theorem dX1_takeFill_71 : decode cX1_takeFill 71 = .ok (.aload_n 0, 1) := by decide +kernel
theorem dX1_takeFill_72 : decode cX1_takeFill 72 = .ok (.iconst 0, 1) := by decide +kernel
theorem dX1_takeFill_73 : decode cX1_takeFill 73 = .ok (.putfield 41, 3) := by decide +kernel
theorem dX1_takeFill_76 : decode cX1_takeFill 76 = .ok (.aload_n 0, 1) := by decide +kernel
theorem dX1_takeFill_77 : decode cX1_takeFill 77 = .ok (.iconst 0, 1) := by decide +kernel
theorem dX1_takeFill_78 : decode cX1_takeFill 78 = .ok (.putfield 44, 3) := by decide +kernel
theorem dX1_takeFill_81 : decode cX1_takeFill 81 = .ok (.return_, 1) := by decide +kernel
theorem dX1_noteOf_0 : decode cX1_noteOf 0 = .ok (.iload_n 1, 1) := by decide +kernel
theorem dX1_noteOf_1 : decode cX1_noteOf 1 = .ok (.aload_n 0, 1) := by decide +kernel
theorem dX1_noteOf_2 : decode cX1_noteOf 2 = .ok (.getfield 41, 3) := by decide +kernel
theorem dX1_noteOf_5 : decode cX1_noteOf 5 = .ok (.aload_n 0, 1) := by decide +kernel
theorem dX1_noteOf_6 : decode cX1_noteOf 6 = .ok (.getfield 25, 3) := by decide +kernel
theorem dX1_noteOf_9 : decode cX1_noteOf 9 = .ok (.imul, 1) := by decide +kernel
theorem dX1_noteOf_10 : decode cX1_noteOf 10 = .ok (.aload_n 0, 1) := by decide +kernel
theorem dX1_noteOf_11 : decode cX1_noteOf 11 = .ok (.getfield 44, 3) := by decide +kernel
theorem dX1_noteOf_14 : decode cX1_noteOf 14 = .ok (.aload_n 0, 1) := by decide +kernel
theorem dX1_noteOf_15 : decode cX1_noteOf 15 = .ok (.getfield 28, 3) := by decide +kernel
theorem dX1_noteOf_18 : decode cX1_noteOf 18 = .ok (.imul, 1) := by decide +kernel
theorem dX1_noteOf_19 : decode cX1_noteOf 19 = .ok (.iadd, 1) := by decide +kernel
theorem dX1_noteOf_20 : decode cX1_noteOf 20 = .ok (.if_icmp .le 5, 3) := by decide +kernel
theorem dX1_noteOf_23 : decode cX1_noteOf 23 = .ok (.iconst 1, 1) := by decide +kernel
theorem dX1_noteOf_24 : decode cX1_noteOf 24 = .ok (.ireturn, 1) := by decide +kernel
theorem dX1_noteOf_25 : decode cX1_noteOf 25 = .ok (.iload_n 1, 1) := by decide +kernel
theorem dX1_noteOf_26 : decode cX1_noteOf 26 = .ok (.aload_n 0, 1) := by decide +kernel
theorem dX1_noteOf_27 : decode cX1_noteOf 27 = .ok (.getfield 41, 3) := by decide +kernel
theorem dX1_noteOf_30 : decode cX1_noteOf 30 = .ok (.aload_n 0, 1) := by decide +kernel
theorem dX1_noteOf_31 : decode cX1_noteOf 31 = .ok (.getfield 18, 3) := by decide +kernel
theorem dX1_noteOf_34 : decode cX1_noteOf 34 = .ok (.imul, 1) := by decide +kernel
theorem dX1_noteOf_35 : decode cX1_noteOf 35 = .ok (.aload_n 0, 1) := by decide +kernel
theorem dX1_noteOf_36 : decode cX1_noteOf 36 = .ok (.getfield 44, 3) := by decide +kernel
theorem dX1_noteOf_39 : decode cX1_noteOf 39 = .ok (.aload_n 0, 1) := by decide +kernel
theorem dX1_noteOf_40 : decode cX1_noteOf 40 = .ok (.getfield 22, 3) := by decide +kernel
theorem dX1_noteOf_43 : decode cX1_noteOf 43 = .ok (.imul, 1) := by decide +kernel
theorem dX1_noteOf_44 : decode cX1_noteOf 44 = .ok (.iadd, 1) := by decide +kernel
theorem dX1_noteOf_45 : decode cX1_noteOf 45 = .ok (.if_icmp .ge 15, 3) := by decide +kernel
theorem dX1_noteOf_48 : decode cX1_noteOf 48 = .ok (.iload_n 1, 1) := by decide +kernel
theorem dX1_noteOf_49 : decode cX1_noteOf 49 = .ok (.aload_n 0, 1) := by decide +kernel
theorem dX1_noteOf_50 : decode cX1_noteOf 50 = .ok (.getfield 53, 3) := by decide +kernel
theorem dX1_noteOf_53 : decode cX1_noteOf 53 = .ok (.if_icmp .ge 7, 3) := by decide +kernel
theorem dX1_noteOf_56 : decode cX1_noteOf 56 = .ok (.iconst 2, 1) := by decide +kernel
theorem dX1_noteOf_57 : decode cX1_noteOf 57 = .ok (.goto 4, 3) := by decide +kernel
theorem dX1_noteOf_60 : decode cX1_noteOf 60 = .ok (.iconst 0, 1) := by decide +kernel
theorem dX1_noteOf_61 : decode cX1_noteOf 61 = .ok (.ireturn, 1) := by decide +kernel
theorem dX1_narrow_0 : decode cX1_narrow 0 = .ok (.aload_n 0, 1) := by decide +kernel
theorem dX1_narrow_1 : decode cX1_narrow 1 = .ok (.aload_n 0, 1) := by decide +kernel
theorem dX1_narrow_2 : decode cX1_narrow 2 = .ok (.getfield 18, 3) := by decide +kernel
theorem dX1_narrow_5 : decode cX1_narrow 5 = .ok (.aload_n 0, 1) := by decide +kernel
theorem dX1_narrow_6 : decode cX1_narrow 6 = .ok (.getfield 25, 3) := by decide +kernel
theorem dX1_narrow_9 : decode cX1_narrow 9 = .ok (.iload_n 1, 1) := by decide +kernel
theorem dX1_narrow_10 : decode cX1_narrow 10 = .ok (.aload_n 0, 1) := by decide +kernel
theorem dX1_narrow_11 : decode cX1_narrow 11 = .ok (.getfield 44, 3) := by decide +kernel
theorem dX1_narrow_14 : decode cX1_narrow 14 = .ok (.aload_n 0, 1) := by decide +kernel
theorem dX1_narrow_15 : decode cX1_narrow 15 = .ok (.getfield 22, 3) := by decide +kernel
theorem dX1_narrow_18 : decode cX1_narrow 18 = .ok (.imul, 1) := by decide +kernel
theorem dX1_narrow_19 : decode cX1_narrow 19 = .ok (.isub, 1) := by decide +kernel
theorem dX1_narrow_20 : decode cX1_narrow 20 = .ok (.aload_n 0, 1) := by decide +kernel
theorem dX1_narrow_21 : decode cX1_narrow 21 = .ok (.getfield 41, 3) := by decide +kernel
theorem dX1_narrow_24 : decode cX1_narrow 24 = .ok (.invokestatic 85, 3) := by decide +kernel
theorem dX1_narrow_27 : decode cX1_narrow 27 = .ok (.invokestatic 75, 3) := by decide +kernel
theorem dX1_narrow_30 : decode cX1_narrow 30 = .ok (.invokestatic 66, 3) := by decide +kernel
theorem dX1_narrow_33 : decode cX1_narrow 33 = .ok (.putfield 25, 3) := by decide +kernel
theorem dX1_narrow_36 : decode cX1_narrow 36 = .ok (.aload_n 0, 1) := by decide +kernel
theorem dX1_narrow_37 : decode cX1_narrow 37 = .ok (.getfield 44, 3) := by decide +kernel
theorem dX1_narrow_40 : decode cX1_narrow 40 = .ok (.ifCond .le 39, 3) := by decide +kernel
theorem dX1_narrow_43 : decode cX1_narrow 43 = .ok (.aload_n 0, 1) := by decide +kernel
theorem dX1_narrow_44 : decode cX1_narrow 44 = .ok (.aload_n 0, 1) := by decide +kernel
theorem dX1_narrow_45 : decode cX1_narrow 45 = .ok (.getfield 22, 3) := by decide +kernel
theorem dX1_narrow_48 : decode cX1_narrow 48 = .ok (.aload_n 0, 1) := by decide +kernel
theorem dX1_narrow_49 : decode cX1_narrow 49 = .ok (.getfield 28, 3) := by decide +kernel
theorem dX1_narrow_52 : decode cX1_narrow 52 = .ok (.iload_n 1, 1) := by decide +kernel
theorem dX1_narrow_53 : decode cX1_narrow 53 = .ok (.aload_n 0, 1) := by decide +kernel
theorem dX1_narrow_54 : decode cX1_narrow 54 = .ok (.getfield 41, 3) := by decide +kernel
theorem dX1_narrow_57 : decode cX1_narrow 57 = .ok (.aload_n 0, 1) := by decide +kernel
theorem dX1_narrow_58 : decode cX1_narrow 58 = .ok (.getfield 18, 3) := by decide +kernel
theorem dX1_narrow_61 : decode cX1_narrow 61 = .ok (.imul, 1) := by decide +kernel
theorem dX1_narrow_62 : decode cX1_narrow 62 = .ok (.isub, 1) := by decide +kernel
theorem dX1_narrow_63 : decode cX1_narrow 63 = .ok (.aload_n 0, 1) := by decide +kernel
theorem dX1_narrow_64 : decode cX1_narrow 64 = .ok (.getfield 44, 3) := by decide +kernel
theorem dX1_narrow_67 : decode cX1_narrow 67 = .ok (.invokestatic 85, 3) := by decide +kernel
theorem dX1_narrow_70 : decode cX1_narrow 70 = .ok (.invokestatic 75, 3) := by decide +kernel
theorem dX1_narrow_73 : decode cX1_narrow 73 = .ok (.invokestatic 66, 3) := by decide +kernel
theorem dX1_narrow_76 : decode cX1_narrow 76 = .ok (.putfield 28, 3) := by decide +kernel
theorem dX1_narrow_79 : decode cX1_narrow 79 = .ok (.aload_n 0, 1) := by decide +kernel
theorem dX1_narrow_80 : decode cX1_narrow 80 = .ok (.aload_n 0, 1) := by decide +kernel
theorem dX1_narrow_81 : decode cX1_narrow 81 = .ok (.getfield 25, 3) := by decide +kernel
theorem dX1_narrow_84 : decode cX1_narrow 84 = .ok (.aload_n 0, 1) := by decide +kernel
theorem dX1_narrow_85 : decode cX1_narrow 85 = .ok (.getfield 18, 3) := by decide +kernel
theorem dX1_narrow_88 : decode cX1_narrow 88 = .ok (.iload_n 1, 1) := by decide +kernel
theorem dX1_narrow_89 : decode cX1_narrow 89 = .ok (.aload_n 0, 1) := by decide +kernel
theorem dX1_narrow_90 : decode cX1_narrow 90 = .ok (.getfield 44, 3) := by decide +kernel
theorem dX1_narrow_93 : decode cX1_narrow 93 = .ok (.aload_n 0, 1) := by decide +kernel
theorem dX1_narrow_94 : decode cX1_narrow 94 = .ok (.getfield 28, 3) := by decide +kernel
theorem dX1_narrow_97 : decode cX1_narrow 97 = .ok (.imul, 1) := by decide +kernel
theorem dX1_narrow_98 : decode cX1_narrow 98 = .ok (.isub, 1) := by decide +kernel
theorem dX1_narrow_99 : decode cX1_narrow 99 = .ok (.aload_n 0, 1) := by decide +kernel
theorem dX1_narrow_100 : decode cX1_narrow 100 = .ok (.getfield 41, 3) := by decide +kernel
theorem dX1_narrow_103 : decode cX1_narrow 103 = .ok (.invokestatic 88, 3) := by decide +kernel
theorem dX1_narrow_106 : decode cX1_narrow 106 = .ok (.invokestatic 66, 3) := by decide +kernel
theorem dX1_narrow_109 : decode cX1_narrow 109 = .ok (.invokestatic 75, 3) := by decide +kernel
theorem dX1_narrow_112 : decode cX1_narrow 112 = .ok (.putfield 18, 3) := by decide +kernel
theorem dX1_narrow_115 : decode cX1_narrow 115 = .ok (.aload_n 0, 1) := by decide +kernel
theorem dX1_narrow_116 : decode cX1_narrow 116 = .ok (.getfield 44, 3) := by decide +kernel
theorem dX1_narrow_119 : decode cX1_narrow 119 = .ok (.ifCond .le 39, 3) := by decide +kernel
theorem dX1_narrow_122 : decode cX1_narrow 122 = .ok (.aload_n 0, 1) := by decide +kernel
theorem dX1_narrow_123 : decode cX1_narrow 123 = .ok (.aload_n 0, 1) := by decide +kernel
theorem dX1_narrow_124 : decode cX1_narrow 124 = .ok (.getfield 28, 3) := by decide +kernel
theorem dX1_narrow_127 : decode cX1_narrow 127 = .ok (.aload_n 0, 1) := by decide +kernel
theorem dX1_narrow_128 : decode cX1_narrow 128 = .ok (.getfield 22, 3) := by decide +kernel
theorem dX1_narrow_131 : decode cX1_narrow 131 = .ok (.iload_n 1, 1) := by decide +kernel
theorem dX1_narrow_132 : decode cX1_narrow 132 = .ok (.aload_n 0, 1) := by decide +kernel
theorem dX1_narrow_133 : decode cX1_narrow 133 = .ok (.getfield 41, 3) := by decide +kernel
theorem dX1_narrow_136 : decode cX1_narrow 136 = .ok (.aload_n 0, 1) := by decide +kernel
theorem dX1_narrow_137 : decode cX1_narrow 137 = .ok (.getfield 25, 3) := by decide +kernel
theorem dX1_narrow_140 : decode cX1_narrow 140 = .ok (.imul, 1) := by decide +kernel
theorem dX1_narrow_141 : decode cX1_narrow 141 = .ok (.isub, 1) := by decide +kernel
theorem dX1_narrow_142 : decode cX1_narrow 142 = .ok (.aload_n 0, 1) := by decide +kernel
theorem dX1_narrow_143 : decode cX1_narrow 143 = .ok (.getfield 44, 3) := by decide +kernel
theorem dX1_narrow_146 : decode cX1_narrow 146 = .ok (.invokestatic 88, 3) := by decide +kernel
theorem dX1_narrow_149 : decode cX1_narrow 149 = .ok (.invokestatic 66, 3) := by decide +kernel
theorem dX1_narrow_152 : decode cX1_narrow 152 = .ok (.invokestatic 75, 3) := by decide +kernel
theorem dX1_narrow_155 : decode cX1_narrow 155 = .ok (.putfield 22, 3) := by decide +kernel
theorem dX1_narrow_158 : decode cX1_narrow 158 = .ok (.return_, 1) := by decide +kernel
theorem dX1_cut_0 : decode cX1_cut 0 = .ok (.iload_n 1, 1) := by decide +kernel
theorem dX1_cut_1 : decode cX1_cut 1 = .ok (.ifCond .gt 7, 3) := by decide +kernel
theorem dX1_cut_4 : decode cX1_cut 4 = .ok (.iconst 0, 1) := by decide +kernel
theorem dX1_cut_5 : decode cX1_cut 5 = .ok (.goto 6, 3) := by decide +kernel
theorem dX1_cut_8 : decode cX1_cut 8 = .ok (.iload_n 0, 1) := by decide +kernel
theorem dX1_cut_9 : decode cX1_cut 9 = .ok (.iload_n 1, 1) := by decide +kernel
theorem dX1_cut_10 : decode cX1_cut 10 = .ok (.idiv, 1) := by decide +kernel
theorem dX1_cut_11 : decode cX1_cut 11 = .ok (.ireturn, 1) := by decide +kernel
theorem dX1_roundedUp_0 : decode cX1_roundedUp 0 = .ok (.iload_n 1, 1) := by decide +kernel
theorem dX1_roundedUp_1 : decode cX1_roundedUp 1 = .ok (.ifCond .gt 7, 3) := by decide +kernel
theorem dX1_roundedUp_4 : decode cX1_roundedUp 4 = .ok (.iconst 0, 1) := by decide +kernel
theorem dX1_roundedUp_5 : decode cX1_roundedUp 5 = .ok (.goto 10, 3) := by decide +kernel
theorem dX1_roundedUp_8 : decode cX1_roundedUp 8 = .ok (.iload_n 0, 1) := by decide +kernel
theorem dX1_roundedUp_9 : decode cX1_roundedUp 9 = .ok (.ineg, 1) := by decide +kernel
theorem dX1_roundedUp_10 : decode cX1_roundedUp 10 = .ok (.iload_n 1, 1) := by decide +kernel
theorem dX1_roundedUp_11 : decode cX1_roundedUp 11 = .ok (.invokestatic 91, 3) := by decide +kernel
theorem dX1_roundedUp_14 : decode cX1_roundedUp 14 = .ok (.ineg, 1) := by decide +kernel
theorem dX1_roundedUp_15 : decode cX1_roundedUp 15 = .ok (.ireturn, 1) := by decide +kernel
theorem dX1_isOf_0 : decode cX1_isOf 0 = .ok (.iload_n 1, 1) := by decide +kernel
theorem dX1_isOf_1 : decode cX1_isOf 1 = .ok (.tableswitch 48 0 3 #[31, 33, 38, 43], 31) := by decide +kernel
theorem dX1_isOf_32 : decode cX1_isOf 32 = .ok (.iconst 1, 1) := by decide +kernel
theorem dX1_isOf_33 : decode cX1_isOf 33 = .ok (.ireturn, 1) := by decide +kernel
theorem dX1_isOf_34 : decode cX1_isOf 34 = .ok (.aload_n 0, 1) := by decide +kernel
theorem dX1_isOf_35 : decode cX1_isOf 35 = .ok (.invokevirtual 94, 3) := by decide +kernel
theorem dX1_isOf_38 : decode cX1_isOf 38 = .ok (.ireturn, 1) := by decide +kernel
theorem dX1_isOf_39 : decode cX1_isOf 39 = .ok (.aload_n 0, 1) := by decide +kernel
theorem dX1_isOf_40 : decode cX1_isOf 40 = .ok (.invokevirtual 98, 3) := by decide +kernel
theorem dX1_isOf_43 : decode cX1_isOf 43 = .ok (.ireturn, 1) := by decide +kernel
theorem dX1_isOf_44 : decode cX1_isOf 44 = .ok (.aload_n 0, 1) := by decide +kernel
theorem dX1_isOf_45 : decode cX1_isOf 45 = .ok (.invokevirtual 101, 3) := by decide +kernel
theorem dX1_isOf_48 : decode cX1_isOf 48 = .ok (.ireturn, 1) := by decide +kernel
theorem dX1_isOf_49 : decode cX1_isOf 49 = .ok (.iconst 0, 1) := by decide +kernel
theorem dX1_isOf_50 : decode cX1_isOf 50 = .ok (.ireturn, 1) := by decide +kernel
theorem dX1_toldKind_0 : decode cX1_toldKind 0 = .ok (.aload_n 0, 1) := by decide +kernel
theorem dX1_toldKind_1 : decode cX1_toldKind 1 = .ok (.invokevirtual 101, 3) := by decide +kernel
theorem dX1_toldKind_4 : decode cX1_toldKind 4 = .ok (.ifCond .eq 5, 3) := by decide +kernel
theorem dX1_toldKind_7 : decode cX1_toldKind 7 = .ok (.iconst 3, 1) := by decide +kernel
theorem dX1_toldKind_8 : decode cX1_toldKind 8 = .ok (.ireturn, 1) := by decide +kernel
theorem dX1_toldKind_9 : decode cX1_toldKind 9 = .ok (.aload_n 0, 1) := by decide +kernel
theorem dX1_toldKind_10 : decode cX1_toldKind 10 = .ok (.invokevirtual 98, 3) := by decide +kernel
theorem dX1_toldKind_13 : decode cX1_toldKind 13 = .ok (.ifCond .eq 5, 3) := by decide +kernel
theorem dX1_toldKind_16 : decode cX1_toldKind 16 = .ok (.iconst 2, 1) := by decide +kernel
theorem dX1_toldKind_17 : decode cX1_toldKind 17 = .ok (.ireturn, 1) := by decide +kernel
theorem dX1_toldKind_18 : decode cX1_toldKind 18 = .ok (.aload_n 0, 1) := by decide +kernel
theorem dX1_toldKind_19 : decode cX1_toldKind 19 = .ok (.invokevirtual 94, 3) := by decide +kernel
theorem dX1_toldKind_22 : decode cX1_toldKind 22 = .ok (.ifCond .eq 7, 3) := by decide +kernel
theorem dX1_toldKind_25 : decode cX1_toldKind 25 = .ok (.iconst 1, 1) := by decide +kernel
theorem dX1_toldKind_26 : decode cX1_toldKind 26 = .ok (.goto 4, 3) := by decide +kernel
theorem dX1_toldKind_29 : decode cX1_toldKind 29 = .ok (.iconst 0, 1) := by decide +kernel
theorem dX1_toldKind_30 : decode cX1_toldKind 30 = .ok (.ireturn, 1) := by decide +kernel
theorem dX1_isLeaky_0 : decode cX1_isLeaky 0 = .ok (.aload_n 0, 1) := by decide +kernel
theorem dX1_isLeaky_1 : decode cX1_isLeaky 1 = .ok (.getfield 34, 3) := by decide +kernel
theorem dX1_isLeaky_4 : decode cX1_isLeaky 4 = .ok (.iconst 1, 1) := by decide +kernel
theorem dX1_isLeaky_5 : decode cX1_isLeaky 5 = .ok (.if_icmp .ne 7, 3) := by decide +kernel
theorem dX1_isLeaky_8 : decode cX1_isLeaky 8 = .ok (.iconst 1, 1) := by decide +kernel
theorem dX1_isLeaky_9 : decode cX1_isLeaky 9 = .ok (.goto 4, 3) := by decide +kernel
theorem dX1_isLeaky_12 : decode cX1_isLeaky 12 = .ok (.iconst 0, 1) := by decide +kernel
theorem dX1_isLeaky_13 : decode cX1_isLeaky 13 = .ok (.ireturn, 1) := by decide +kernel
theorem dX1_isSteady_0 : decode cX1_isSteady 0 = .ok (.aload_n 0, 1) := by decide +kernel
theorem dX1_isSteady_1 : decode cX1_isSteady 1 = .ok (.invokevirtual 94, 3) := by decide +kernel
theorem dX1_isSteady_4 : decode cX1_isSteady 4 = .ok (.ifCond .eq 21, 3) := by decide +kernel
theorem dX1_isSteady_7 : decode cX1_isSteady 7 = .ok (.aload_n 0, 1) := by decide +kernel
theorem dX1_isSteady_8 : decode cX1_isSteady 8 = .ok (.getfield 22, 3) := by decide +kernel
theorem dX1_isSteady_11 : decode cX1_isSteady 11 = .ok (.ifCond .ne 14, 3) := by decide +kernel
theorem dX1_isSteady_14 : decode cX1_isSteady 14 = .ok (.aload_n 0, 1) := by decide +kernel
theorem dX1_isSteady_15 : decode cX1_isSteady 15 = .ok (.getfield 28, 3) := by decide +kernel
theorem dX1_isSteady_18 : decode cX1_isSteady 18 = .ok (.ifCond .ne 7, 3) := by decide +kernel
theorem dX1_isSteady_21 : decode cX1_isSteady 21 = .ok (.iconst 1, 1) := by decide +kernel
theorem dX1_isSteady_22 : decode cX1_isSteady 22 = .ok (.goto 4, 3) := by decide +kernel
theorem dX1_isSteady_25 : decode cX1_isSteady 25 = .ok (.iconst 0, 1) := by decide +kernel
theorem dX1_isSteady_26 : decode cX1_isSteady 26 = .ok (.ireturn, 1) := by decide +kernel
theorem dX1_isKnown_0 : decode cX1_isKnown 0 = .ok (.aload_n 0, 1) := by decide +kernel
theorem dX1_isKnown_1 : decode cX1_isKnown 1 = .ok (.getfield 31, 3) := by decide +kernel
theorem dX1_isKnown_4 : decode cX1_isKnown 4 = .ok (.iconst 3, 1) := by decide +kernel
theorem dX1_isKnown_5 : decode cX1_isKnown 5 = .ok (.if_icmp .lt 14, 3) := by decide +kernel
theorem dX1_isKnown_8 : decode cX1_isKnown 8 = .ok (.aload_n 0, 1) := by decide +kernel
theorem dX1_isKnown_9 : decode cX1_isKnown 9 = .ok (.getfield 37, 3) := by decide +kernel
theorem dX1_isKnown_12 : decode cX1_isKnown 12 = .ok (.ifCond .ne 7, 3) := by decide +kernel
theorem dX1_isKnown_15 : decode cX1_isKnown 15 = .ok (.iconst 1, 1) := by decide +kernel
theorem dX1_isKnown_16 : decode cX1_isKnown 16 = .ok (.goto 4, 3) := by decide +kernel
theorem dX1_isKnown_19 : decode cX1_isKnown 19 = .ok (.iconst 0, 1) := by decide +kernel
theorem dX1_isKnown_20 : decode cX1_isKnown 20 = .ok (.ireturn, 1) := by decide +kernel
theorem dX2_init_0 : decode cX2_init 0 = .ok (.aload_n 0, 1) := by decide +kernel
theorem dX2_init_1 : decode cX2_init 1 = .ok (.invokespecial 3, 3) := by decide +kernel
theorem dX2_init_4 : decode cX2_init 4 = .ok (.aload_n 0, 1) := by decide +kernel
theorem dX2_init_5 : decode cX2_init 5 = .ok (.iconst 0, 1) := by decide +kernel
theorem dX2_init_6 : decode cX2_init 6 = .ok (.putfield 9, 3) := by decide +kernel
theorem dX2_init_9 : decode cX2_init 9 = .ok (.aload_n 0, 1) := by decide +kernel
theorem dX2_init_10 : decode cX2_init 10 = .ok (.iconst 0, 1) := by decide +kernel
theorem dX2_init_11 : decode cX2_init 11 = .ok (.putfield 15, 3) := by decide +kernel
theorem dX2_init_14 : decode cX2_init 14 = .ok (.aload_n 0, 1) := by decide +kernel
theorem dX2_init_15 : decode cX2_init 15 = .ok (.iconst 0, 1) := by decide +kernel
theorem dX2_init_16 : decode cX2_init 16 = .ok (.putfield 18, 3) := by decide +kernel
theorem dX2_init_19 : decode cX2_init 19 = .ok (.return_, 1) := by decide +kernel
theorem dX2_become_0 : decode cX2_become 0 = .ok (.aload_n 0, 1) := by decide +kernel
theorem dX2_become_1 : decode cX2_become 1 = .ok (.iload_n 1, 1) := by decide +kernel
theorem dX2_become_2 : decode cX2_become 2 = .ok (.putfield 9, 3) := by decide +kernel
theorem dX2_become_5 : decode cX2_become 5 = .ok (.aload_n 0, 1) := by decide +kernel
theorem dX2_become_6 : decode cX2_become 6 = .ok (.iload_n 2, 1) := by decide +kernel
theorem dX2_become_7 : decode cX2_become 7 = .ok (.putfield 15, 3) := by decide +kernel
theorem dX2_become_10 : decode cX2_become 10 = .ok (.aload_n 0, 1) := by decide +kernel
theorem dX2_become_11 : decode cX2_become 11 = .ok (.iload_n 3, 1) := by decide +kernel
theorem dX2_become_12 : decode cX2_become 12 = .ok (.putfield 18, 3) := by decide +kernel
theorem dX2_become_15 : decode cX2_become 15 = .ok (.return_, 1) := by decide +kernel
theorem dX2_costOf_0 : decode cX2_costOf 0 = .ok (.aload_n 0, 1) := by decide +kernel
theorem dX2_costOf_1 : decode cX2_costOf 1 = .ok (.getfield 9, 3) := by decide +kernel
theorem dX2_costOf_4 : decode cX2_costOf 4 = .ok (.lookupswitch 60 #[(1, 28), (2, 39)], 28) := by decide +kernel
theorem dX2_costOf_32 : decode cX2_costOf 32 = .ok (.iload_n 1, 1) := by decide +kernel
theorem dX2_costOf_33 : decode cX2_costOf 33 = .ok (.iload_n 2, 1) := by decide +kernel
theorem dX2_costOf_34 : decode cX2_costOf 34 = .ok (.aload_n 0, 1) := by decide +kernel
theorem dX2_costOf_35 : decode cX2_costOf 35 = .ok (.getfield 18, 3) := by decide +kernel
theorem dX2_costOf_38 : decode cX2_costOf 38 = .ok (.invokestatic 21, 3) := by decide +kernel
theorem dX2_costOf_41 : decode cX2_costOf 41 = .ok (.imul, 1) := by decide +kernel
theorem dX2_costOf_42 : decode cX2_costOf 42 = .ok (.ireturn, 1) := by decide +kernel
theorem dX2_costOf_43 : decode cX2_costOf 43 = .ok (.aload_n 0, 1) := by decide +kernel
theorem dX2_costOf_44 : decode cX2_costOf 44 = .ok (.iload_n 1, 1) := by decide +kernel
theorem dX2_costOf_45 : decode cX2_costOf 45 = .ok (.invokevirtual 27, 3) := by decide +kernel
theorem dX2_costOf_48 : decode cX2_costOf 48 = .ok (.aload_n 0, 1) := by decide +kernel
theorem dX2_costOf_49 : decode cX2_costOf 49 = .ok (.getfield 18, 3) := by decide +kernel
theorem dX2_costOf_52 : decode cX2_costOf 52 = .ok (.imul, 1) := by decide +kernel
theorem dX2_costOf_53 : decode cX2_costOf 53 = .ok (.iload_n 1, 1) := by decide +kernel
theorem dX2_costOf_54 : decode cX2_costOf 54 = .ok (.aload_n 0, 1) := by decide +kernel
theorem dX2_costOf_55 : decode cX2_costOf 55 = .ok (.iload_n 1, 1) := by decide +kernel
theorem dX2_costOf_56 : decode cX2_costOf 56 = .ok (.invokevirtual 27, 3) := by decide +kernel
theorem dX2_costOf_59 : decode cX2_costOf 59 = .ok (.isub, 1) := by decide +kernel
theorem dX2_costOf_60 : decode cX2_costOf 60 = .ok (.iload_n 2, 1) := by decide +kernel
theorem dX2_costOf_61 : decode cX2_costOf 61 = .ok (.imul, 1) := by decide +kernel
theorem dX2_costOf_62 : decode cX2_costOf 62 = .ok (.iadd, 1) := by decide +kernel
theorem dX2_costOf_63 : decode cX2_costOf 63 = .ok (.ireturn, 1) := by decide +kernel
theorem dX2_costOf_64 : decode cX2_costOf 64 = .ok (.iload_n 1, 1) := by decide +kernel
theorem dX2_costOf_65 : decode cX2_costOf 65 = .ok (.iload_n 2, 1) := by decide +kernel
theorem dX2_costOf_66 : decode cX2_costOf 66 = .ok (.imul, 1) := by decide +kernel
theorem dX2_costOf_67 : decode cX2_costOf 67 = .ok (.ireturn, 1) := by decide +kernel
theorem dX2_useUp_0 : decode cX2_useUp 0 = .ok (.aload_n 0, 1) := by decide +kernel
theorem dX2_useUp_1 : decode cX2_useUp 1 = .ok (.dup, 1) := by decide +kernel
theorem dX2_useUp_2 : decode cX2_useUp 2 = .ok (.getfield 15, 3) := by decide +kernel
theorem dX2_useUp_5 : decode cX2_useUp 5 = .ok (.aload_n 0, 1) := by decide +kernel
theorem dX2_useUp_6 : decode cX2_useUp 6 = .ok (.iload_n 1, 1) := by decide +kernel
theorem dX2_useUp_7 : decode cX2_useUp 7 = .ok (.invokevirtual 27, 3) := by decide +kernel
theorem dX2_useUp_10 : decode cX2_useUp 10 = .ok (.isub, 1) := by decide +kernel
theorem dX2_useUp_11 : decode cX2_useUp 11 = .ok (.putfield 15, 3) := by decide +kernel
theorem dX2_useUp_14 : decode cX2_useUp 14 = .ok (.return_, 1) := by decide +kernel
theorem dX2_ahead_0 : decode cX2_ahead 0 = .ok (.iload_n 1, 1) := by decide +kernel
theorem dX2_ahead_1 : decode cX2_ahead 1 = .ok (.aload_n 0, 1) := by decide +kernel
theorem dX2_ahead_2 : decode cX2_ahead 2 = .ok (.getfield 15, 3) := by decide +kernel
theorem dX2_ahead_5 : decode cX2_ahead 5 = .ok (.invokestatic 21, 3) := by decide +kernel
theorem dX2_ahead_8 : decode cX2_ahead 8 = .ok (.ireturn, 1) := by decide +kernel
