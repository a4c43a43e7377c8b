theorem dX3_init_0 : decode cX3_init 0 = .ok (.aload_n 0, 1) := by decide +kernel
theorem dX3_init_1 : decode cX3_init 1 = .ok (.invokespecial 3, 3) := by decide +kernel
theorem dX3_init_4 : decode cX3_init 4 = .ok (.aload_n 0, 1) := by decide +kernel
theorem dX3_init_5 : decode cX3_init 5 = .ok (.sipush 300, 3) := by decide +kernel
theorem dX3_init_8 : decode cX3_init 8 = .ok (.newarray .byte, 2) := by decide +kernel
theorem dX3_init_10 : decode cX3_init 10 = .ok (.putfield 11, 3) := by decide +kernel
theorem dX3_init_13 : decode cX3_init 13 = .ok (.aload_n 0, 1) := by decide +kernel
theorem dX3_init_14 : decode cX3_init 14 = .ok (.iconst 0, 1) := by decide +kernel
theorem dX3_init_15 : decode cX3_init 15 = .ok (.putfield 15, 3) := by decide +kernel
theorem dX3_init_18 : decode cX3_init 18 = .ok (.aload_n 0, 1) := by decide +kernel
theorem dX3_init_19 : decode cX3_init 19 = .ok (.iconst 0, 1) := by decide +kernel
theorem dX3_init_20 : decode cX3_init 20 = .ok (.putfield 19, 3) := by decide +kernel
theorem dX3_init_23 : decode cX3_init 23 = .ok (.aload_n 0, 1) := by decide +kernel
theorem dX3_init_24 : decode cX3_init 24 = .ok (.iconst 0, 1) := by decide +kernel
theorem dX3_init_25 : decode cX3_init 25 = .ok (.putfield 22, 3) := by decide +kernel
theorem dX3_init_28 : decode cX3_init 28 = .ok (.aload_n 0, 1) := by decide +kernel
theorem dX3_init_29 : decode cX3_init 29 = .ok (.iconst 0, 1) := by decide +kernel
theorem dX3_init_30 : decode cX3_init 30 = .ok (.putfield 25, 3) := by decide +kernel
theorem dX3_init_33 : decode cX3_init 33 = .ok (.aload_n 0, 1) := by decide +kernel
theorem dX3_init_34 : decode cX3_init 34 = .ok (.iconst 0, 1) := by decide +kernel
theorem dX3_init_35 : decode cX3_init 35 = .ok (.putfield 28, 3) := by decide +kernel
theorem dX3_init_38 : decode cX3_init 38 = .ok (.aload_n 0, 1) := by decide +kernel
theorem dX3_init_39 : decode cX3_init 39 = .ok (.iconst 0, 1) := by decide +kernel
theorem dX3_init_40 : decode cX3_init 40 = .ok (.putfield 31, 3) := by decide +kernel
theorem dX3_init_43 : decode cX3_init 43 = .ok (.aload_n 0, 1) := by decide +kernel
theorem dX3_init_44 : decode cX3_init 44 = .ok (.iconst 0, 1) := by decide +kernel
theorem dX3_init_45 : decode cX3_init 45 = .ok (.putfield 34, 3) := by decide +kernel
theorem dX3_init_48 : decode cX3_init 48 = .ok (.aload_n 0, 1) := by decide +kernel
theorem dX3_init_49 : decode cX3_init 49 = .ok (.aconst_null, 1) := by decide +kernel
theorem dX3_init_50 : decode cX3_init 50 = .ok (.putfield 37, 3) := by decide +kernel
theorem dX3_init_53 : decode cX3_init 53 = .ok (.aload_n 0, 1) := by decide +kernel
theorem dX3_init_54 : decode cX3_init 54 = .ok (.iconst 0, 1) := by decide +kernel
theorem dX3_init_55 : decode cX3_init 55 = .ok (.putfield 41, 3) := by decide +kernel
theorem dX3_init_58 : decode cX3_init 58 = .ok (.aload_n 0, 1) := by decide +kernel
theorem dX3_init_59 : decode cX3_init 59 = .ok (.iconst 0, 1) := by decide +kernel
theorem dX3_init_60 : decode cX3_init 60 = .ok (.putfield 44, 3) := by decide +kernel
theorem dX3_init_63 : decode cX3_init 63 = .ok (.aload_n 0, 1) := by decide +kernel
theorem dX3_init_64 : decode cX3_init 64 = .ok (.iconst 0, 1) := by decide +kernel
theorem dX3_init_65 : decode cX3_init 65 = .ok (.putfield 47, 3) := by decide +kernel
theorem dX3_init_68 : decode cX3_init 68 = .ok (.return_, 1) := by decide +kernel
theorem dX3_append_0 : decode cX3_append 0 = .ok (.iload_n 3, 1) := by decide +kernel
theorem dX3_append_1 : decode cX3_append 1 = .ok (.aload_n 0, 1) := by decide +kernel
theorem dX3_append_2 : decode cX3_append 2 = .ok (.getfield 11, 3) := by decide +kernel
theorem dX3_append_5 : decode cX3_append 5 = .ok (.arraylength, 1) := by decide +kernel
theorem dX3_append_6 : decode cX3_append 6 = .ok (.aload_n 0, 1) := by decide +kernel
theorem dX3_append_7 : decode cX3_append 7 = .ok (.getfield 15, 3) := by decide +kernel
theorem dX3_append_10 : decode cX3_append 10 = .ok (.isub, 1) := by decide +kernel
theorem dX3_append_11 : decode cX3_append 11 = .ok (.if_icmp .le 6, 3) := by decide +kernel
theorem dX3_append_14 : decode cX3_append 14 = .ok (.ldc 50, 2) := by decide +kernel
theorem dX3_append_16 : decode cX3_append 16 = .ok (.ireturn, 1) := by decide +kernel
theorem dX3_append_17 : decode cX3_append 17 = .ok (.iload_n 3, 1) := by decide +kernel
theorem dX3_append_18 : decode cX3_append 18 = .ok (.iconst 1, 1) := by decide +kernel
theorem dX3_append_19 : decode cX3_append 19 = .ok (.isub, 1) := by decide +kernel
theorem dX3_append_20 : decode cX3_append 20 = .ok (.istore 4, 2) := by decide +kernel
theorem dX3_append_22 : decode cX3_append 22 = .ok (.iload 4, 2) := by decide +kernel
theorem dX3_append_24 : decode cX3_append 24 = .ok (.ifCond .lt 59, 3) := by decide +kernel
theorem dX3_append_27 : decode cX3_append 27 = .ok (.aload_n 0, 1) := by decide +kernel
theorem dX3_append_28 : decode cX3_append 28 = .ok (.getfield 15, 3) := by decide +kernel
theorem dX3_append_31 : decode cX3_append 31 = .ok (.ifCond .lt 15, 3) := by decide +kernel
theorem dX3_append_34 : decode cX3_append 34 = .ok (.aload_n 0, 1) := by decide +kernel
theorem dX3_append_35 : decode cX3_append 35 = .ok (.getfield 15, 3) := by decide +kernel
theorem dX3_append_38 : decode cX3_append 38 = .ok (.aload_n 0, 1) := by decide +kernel
theorem dX3_append_39 : decode cX3_append 39 = .ok (.getfield 11, 3) := by decide +kernel
theorem dX3_append_42 : decode cX3_append 42 = .ok (.arraylength, 1) := by decide +kernel
theorem dX3_append_43 : decode cX3_append 43 = .ok (.if_icmp .lt 6, 3) := by decide +kernel
theorem dX3_append_46 : decode cX3_append 46 = .ok (.ldc 50, 2) := by decide +kernel
theorem dX3_append_48 : decode cX3_append 48 = .ok (.ireturn, 1) := by decide +kernel
theorem dX3_append_49 : decode cX3_append 49 = .ok (.aload_n 0, 1) := by decide +kernel
theorem dX3_append_50 : decode cX3_append 50 = .ok (.getfield 11, 3) := by decide +kernel
theorem dX3_append_53 : decode cX3_append 53 = .ok (.aload_n 0, 1) := by decide +kernel
theorem dX3_append_54 : decode cX3_append 54 = .ok (.getfield 15, 3) := by decide +kernel
theorem dX3_append_57 : decode cX3_append 57 = .ok (.lload_n 1, 1) := by decide +kernel
theorem dX3_append_58 : decode cX3_append 58 = .ok (.bipush 8, 2) := by decide +kernel
theorem dX3_append_60 : decode cX3_append 60 = .ok (.iload 4, 2) := by decide +kernel
theorem dX3_append_62 : decode cX3_append 62 = .ok (.imul, 1) := by decide +kernel
theorem dX3_append_63 : decode cX3_append 63 = .ok (.lshr, 1) := by decide +kernel
theorem dX3_append_64 : decode cX3_append 64 = .ok (.l2i, 1) := by decide +kernel
theorem dX3_append_65 : decode cX3_append 65 = .ok (.i2b, 1) := by decide +kernel
theorem dX3_append_66 : decode cX3_append 66 = .ok (.bastore, 1) := by decide +kernel
theorem dX3_append_67 : decode cX3_append 67 = .ok (.aload_n 0, 1) := by decide +kernel
theorem dX3_append_68 : decode cX3_append 68 = .ok (.dup, 1) := by decide +kernel
theorem dX3_append_69 : decode cX3_append 69 = .ok (.getfield 15, 3) := by decide +kernel
theorem dX3_append_72 : decode cX3_append 72 = .ok (.iconst 1, 1) := by decide +kernel
theorem dX3_append_73 : decode cX3_append 73 = .ok (.iadd, 1) := by decide +kernel
theorem dX3_append_74 : decode cX3_append 74 = .ok (.putfield 15, 3) := by decide +kernel
theorem dX3_append_77 : decode cX3_append 77 = .ok (.iinc 4 (-1), 3) := by decide +kernel
theorem dX3_append_80 : decode cX3_append 80 = .ok (.goto (-58), 3) := by decide +kernel
theorem dX3_append_83 : decode cX3_append 83 = .ok (.aload_n 0, 1) := by decide +kernel
theorem dX3_append_84 : decode cX3_append 84 = .ok (.getfield 15, 3) := by decide +kernel
theorem dX3_append_87 : decode cX3_append 87 = .ok (.ireturn, 1) := by decide +kernel
theorem dX3_readAll_0 : decode cX3_readAll 0 = .ok (.aload_n 0, 1) := by decide +kernel
theorem dX3_readAll_1 : decode cX3_readAll 1 = .ok (.aload_n 1, 1) := by decide +kernel
theorem dX3_readAll_2 : decode cX3_readAll 2 = .ok (.iconst 0, 1) := by decide +kernel
theorem dX3_readAll_3 : decode cX3_readAll 3 = .ok (.invokevirtual 51, 3) := by decide +kernel
theorem dX3_readAll_6 : decode cX3_readAll 6 = .ok (.istore_n 2, 1) := by decide +kernel
theorem dX3_readAll_7 : decode cX3_readAll 7 = .ok (.iload_n 2, 1) := by decide +kernel
theorem dX3_readAll_8 : decode cX3_readAll 8 = .ok (.ifCond .lt 10, 3) := by decide +kernel
theorem dX3_readAll_11 : decode cX3_readAll 11 = .ok (.aload_n 0, 1) := by decide +kernel
theorem dX3_readAll_12 : decode cX3_readAll 12 = .ok (.aload_n 1, 1) := by decide +kernel
theorem dX3_readAll_13 : decode cX3_readAll 13 = .ok (.iconst 1, 1) := by decide +kernel
theorem dX3_readAll_14 : decode cX3_readAll 14 = .ok (.invokevirtual 51, 3) := by decide +kernel
theorem dX3_readAll_17 : decode cX3_readAll 17 = .ok (.pop, 1) := by decide +kernel
theorem dX3_readAll_18 : decode cX3_readAll 18 = .ok (.aload_n 0, 1) := by decide +kernel
theorem dX3_readAll_19 : decode cX3_readAll 19 = .ok (.iconst 0, 1) := by decide +kernel
theorem dX3_readAll_20 : decode cX3_readAll 20 = .ok (.putfield 15, 3) := by decide +kernel
theorem dX3_readAll_23 : decode cX3_readAll 23 = .ok (.aload_n 0, 1) := by decide +kernel
theorem dX3_readAll_24 : decode cX3_readAll 24 = .ok (.aconst_null, 1) := by decide +kernel
theorem dX3_readAll_25 : decode cX3_readAll 25 = .ok (.putfield 37, 3) := by decide +kernel
theorem dX3_readAll_28 : decode cX3_readAll 28 = .ok (.iload_n 2, 1) := by decide +kernel
theorem dX3_readAll_29 : decode cX3_readAll 29 = .ok (.ireturn, 1) := by decide +kernel
theorem dX3_readOnce_0 : decode cX3_readOnce 0 = .ok (.aload_n 0, 1) := by decide +kernel
theorem dX3_readOnce_1 : decode cX3_readOnce 1 = .ok (.iconst 0, 1) := by decide +kernel
theorem dX3_readOnce_2 : decode cX3_readOnce 2 = .ok (.putfield 22, 3) := by decide +kernel
theorem dX3_readOnce_5 : decode cX3_readOnce 5 = .ok (.aload_n 0, 1) := by decide +kernel
theorem dX3_readOnce_6 : decode cX3_readOnce 6 = .ok (.iconst 0, 1) := by decide +kernel
theorem dX3_readOnce_7 : decode cX3_readOnce 7 = .ok (.putfield 34, 3) := by decide +kernel
theorem dX3_readOnce_10 : decode cX3_readOnce 10 = .ok (.iconst 0, 1) := by decide +kernel
theorem dX3_readOnce_11 : decode cX3_readOnce 11 = .ok (.istore_n 3, 1) := by decide +kernel
theorem dX3_readOnce_12 : decode cX3_readOnce 12 = .ok (.iconst 0, 1) := by decide +kernel
theorem dX3_readOnce_13 : decode cX3_readOnce 13 = .ok (.istore 4, 2) := by decide +kernel
theorem dX3_readOnce_15 : decode cX3_readOnce 15 = .ok (.iload 4, 2) := by decide +kernel
theorem dX3_readOnce_17 : decode cX3_readOnce 17 = .ok (.sipush 300, 3) := by decide +kernel
theorem dX3_readOnce_20 : decode cX3_readOnce 20 = .ok (.if_icmp .gt 104, 3) := by decide +kernel
theorem dX3_readOnce_23 : decode cX3_readOnce 23 = .ok (.aload_n 0, 1) := by decide +kernel
theorem dX3_readOnce_24 : decode cX3_readOnce 24 = .ok (.invokevirtual 55, 3) := by decide +kernel
theorem dX3_readOnce_27 : decode cX3_readOnce 27 = .ok (.aload_n 0, 1) := by decide +kernel
theorem dX3_readOnce_28 : decode cX3_readOnce 28 = .ok (.getfield 25, 3) := by decide +kernel
theorem dX3_readOnce_31 : decode cX3_readOnce 31 = .ok (.ifCond .ne 13, 3) := by decide +kernel
theorem dX3_readOnce_34 : decode cX3_readOnce 34 = .ok (.aload_n 0, 1) := by decide +kernel
theorem dX3_readOnce_35 : decode cX3_readOnce 35 = .ok (.getfield 34, 3) := by decide +kernel
theorem dX3_readOnce_38 : decode cX3_readOnce 38 = .ok (.ifCond .ne 6, 3) := by decide +kernel
theorem dX3_readOnce_41 : decode cX3_readOnce 41 = .ok (.goto 83, 3) := by decide +kernel
theorem dX3_readOnce_44 : decode cX3_readOnce 44 = .ok (.aload_n 0, 1) := by decide +kernel
theorem dX3_readOnce_45 : decode cX3_readOnce 45 = .ok (.aload_n 1, 1) := by decide +kernel
theorem dX3_readOnce_46 : decode cX3_readOnce 46 = .ok (.invokevirtual 58, 3) := by decide +kernel
theorem dX3_readOnce_49 : decode cX3_readOnce 49 = .ok (.istore 5, 2) := by decide +kernel
theorem dX3_readOnce_51 : decode cX3_readOnce 51 = .ok (.iload 5, 2) := by decide +kernel
theorem dX3_readOnce_53 : decode cX3_readOnce 53 = .ok (.ifCond .eq 17, 3) := by decide +kernel
theorem dX3_readOnce_56 : decode cX3_readOnce 56 = .ok (.aload_n 0, 1) := by decide +kernel
theorem dX3_readOnce_57 : decode cX3_readOnce 57 = .ok (.iload 5, 2) := by decide +kernel
theorem dX3_readOnce_59 : decode cX3_readOnce 59 = .ok (.putfield 19, 3) := by decide +kernel
theorem dX3_readOnce_62 : decode cX3_readOnce 62 = .ok (.ldc 62, 2) := by decide +kernel
theorem dX3_readOnce_64 : decode cX3_readOnce 64 = .ok (.aload_n 0, 1) := by decide +kernel
theorem dX3_readOnce_65 : decode cX3_readOnce 65 = .ok (.getfield 28, 3) := by decide +kernel
theorem dX3_readOnce_68 : decode cX3_readOnce 68 = .ok (.isub, 1) := by decide +kernel
theorem dX3_readOnce_69 : decode cX3_readOnce 69 = .ok (.ireturn, 1) := by decide +kernel
theorem dX3_readOnce_70 : decode cX3_readOnce 70 = .ok (.aload_n 0, 1) := by decide +kernel
theorem dX3_readOnce_71 : decode cX3_readOnce 71 = .ok (.getfield 25, 3) := by decide +kernel
theorem dX3_readOnce_74 : decode cX3_readOnce 74 = .ok (.bipush 6, 2) := by decide +kernel
theorem dX3_readOnce_76 : decode cX3_readOnce 76 = .ok (.if_icmp .eq 6, 3) := by decide +kernel
theorem dX3_readOnce_79 : decode cX3_readOnce 79 = .ok (.goto 39, 3) := by decide +kernel
theorem dX3_readOnce_82 : decode cX3_readOnce 82 = .ok (.iinc 3 1, 3) := by decide +kernel
theorem dX3_readOnce_85 : decode cX3_readOnce 85 = .ok (.iload_n 2, 1) := by decide +kernel
theorem dX3_readOnce_86 : decode cX3_readOnce 86 = .ok (.ifCond .eq 32, 3) := by decide +kernel
theorem dX3_readOnce_89 : decode cX3_readOnce 89 = .ok (.aload_n 0, 1) := by decide +kernel
theorem dX3_readOnce_90 : decode cX3_readOnce 90 = .ok (.getfield 37, 3) := by decide +kernel
theorem dX3_readOnce_93 : decode cX3_readOnce 93 = .ok (.ifnull 25, 3) := by decide +kernel
theorem dX3_readOnce_96 : decode cX3_readOnce 96 = .ok (.aload_n 0, 1) := by decide +kernel
theorem dX3_readOnce_97 : decode cX3_readOnce 97 = .ok (.getfield 37, 3) := by decide +kernel
theorem dX3_readOnce_100 : decode cX3_readOnce 100 = .ok (.getfield 63, 3) := by decide +kernel
theorem dX3_readOnce_103 : decode cX3_readOnce 103 = .ok (.aload_n 0, 1) := by decide +kernel
theorem dX3_readOnce_104 : decode cX3_readOnce 104 = .ok (.getfield 41, 3) := by decide +kernel
theorem dX3_readOnce_107 : decode cX3_readOnce 107 = .ok (.aload_n 0, 1) := by decide +kernel
theorem dX3_readOnce_108 : decode cX3_readOnce 108 = .ok (.getfield 44, 3) := by decide +kernel
theorem dX3_readOnce_111 : decode cX3_readOnce 111 = .ok (.aload_n 0, 1) := by decide +kernel
theorem dX3_readOnce_112 : decode cX3_readOnce 112 = .ok (.getfield 47, 3) := by decide +kernel
theorem dX3_readOnce_115 : decode cX3_readOnce 115 = .ok (.invokevirtual 69, 3) := by decide +kernel
theorem dX3_readOnce_118 : decode cX3_readOnce 118 = .ok (.iinc 4 1, 3) := by decide +kernel
theorem dX3_readOnce_121 : decode cX3_readOnce 121 = .ok (.goto (-106), 3) := by decide +kernel
theorem dX3_readOnce_124 : decode cX3_readOnce 124 = .ok (.iload_n 3, 1) := by decide +kernel
theorem dX3_readOnce_125 : decode cX3_readOnce 125 = .ok (.ireturn, 1) := by decide +kernel
theorem dX3_takeToken_0 : decode cX3_takeToken 0 = .ok (.aload_n 0, 1) := by decide +kernel
theorem dX3_takeToken_1 : decode cX3_takeToken 1 = .ok (.invokevirtual 75, 3) := by decide +kernel
theorem dX3_takeToken_4 : decode cX3_takeToken 4 = .ok (.ifCond .ne 5, 3) := by decide +kernel
theorem dX3_takeToken_7 : decode cX3_takeToken 7 = .ok (.iconst 1, 1) := by decide +kernel
theorem dX3_takeToken_8 : decode cX3_takeToken 8 = .ok (.ireturn, 1) := by decide +kernel
theorem dX3_takeToken_9 : decode cX3_takeToken 9 = .ok (.aload_n 0, 1) := by decide +kernel
theorem dX3_takeToken_10 : decode cX3_takeToken 10 = .ok (.getfield 34, 3) := by decide +kernel
theorem dX3_takeToken_13 : decode cX3_takeToken 13 = .ok (.tableswitch 130 0 5 #[39, 56, 86, 92, 107, 114], 39) := by decide +kernel
theorem dX3_takeToken_52 : decode cX3_takeToken 52 = .ok (.aload_n 0, 1) := by decide +kernel
theorem dX3_takeToken_53 : decode cX3_takeToken 53 = .ok (.iconst 0, 1) := by decide +kernel
theorem dX3_takeToken_54 : decode cX3_takeToken 54 = .ok (.putfield 44, 3) := by decide +kernel
theorem dX3_takeToken_57 : decode cX3_takeToken 57 = .ok (.aload_n 0, 1) := by decide +kernel
theorem dX3_takeToken_58 : decode cX3_takeToken 58 = .ok (.iconst 0, 1) := by decide +kernel
theorem dX3_takeToken_59 : decode cX3_takeToken 59 = .ok (.putfield 47, 3) := by decide +kernel
theorem dX3_takeToken_62 : decode cX3_takeToken 62 = .ok (.aload_n 0, 1) := by decide +kernel
theorem dX3_takeToken_63 : decode cX3_takeToken 63 = .ok (.iconst 1, 1) := by decide +kernel
theorem dX3_takeToken_64 : decode cX3_takeToken 64 = .ok (.putfield 34, 3) := by decide +kernel
theorem dX3_takeToken_67 : decode cX3_takeToken 67 = .ok (.iconst 0, 1) := by decide +kernel
theorem dX3_takeToken_68 : decode cX3_takeToken 68 = .ok (.ireturn, 1) := by decide +kernel
theorem dX3_takeToken_69 : decode cX3_takeToken 69 = .ok (.aload_n 0, 1) := by decide +kernel
theorem dX3_takeToken_70 : decode cX3_takeToken 70 = .ok (.aload_n 1, 1) := by decide +kernel
theorem dX3_takeToken_71 : decode cX3_takeToken 71 = .ok (.aload_n 0, 1) := by decide +kernel
theorem dX3_takeToken_72 : decode cX3_takeToken 72 = .ok (.getfield 31, 3) := by decide +kernel
theorem dX3_takeToken_75 : decode cX3_takeToken 75 = .ok (.invokestatic 79, 3) := by decide +kernel
theorem dX3_takeToken_78 : decode cX3_takeToken 78 = .ok (.putfield 37, 3) := by decide +kernel
theorem dX3_takeToken_81 : decode cX3_takeToken 81 = .ok (.aload_n 0, 1) := by decide +kernel
theorem dX3_takeToken_82 : decode cX3_takeToken 82 = .ok (.iconst 2, 1) := by decide +kernel
theorem dX3_takeToken_83 : decode cX3_takeToken 83 = .ok (.putfield 34, 3) := by decide +kernel
theorem dX3_takeToken_86 : decode cX3_takeToken 86 = .ok (.aload_n 0, 1) := by decide +kernel
theorem dX3_takeToken_87 : decode cX3_takeToken 87 = .ok (.getfield 37, 3) := by decide +kernel
theorem dX3_takeToken_90 : decode cX3_takeToken 90 = .ok (.ifnonnull 7, 3) := by decide +kernel
theorem dX3_takeToken_93 : decode cX3_takeToken 93 = .ok (.iconst 2, 1) := by decide +kernel
theorem dX3_takeToken_94 : decode cX3_takeToken 94 = .ok (.goto 4, 3) := by decide +kernel
theorem dX3_takeToken_97 : decode cX3_takeToken 97 = .ok (.iconst 0, 1) := by decide +kernel
theorem dX3_takeToken_98 : decode cX3_takeToken 98 = .ok (.ireturn, 1) := by decide +kernel
theorem dX3_takeToken_99 : decode cX3_takeToken 99 = .ok (.aload_n 0, 1) := by decide +kernel
theorem dX3_takeToken_100 : decode cX3_takeToken 100 = .ok (.invokevirtual 83, 3) := by decide +kernel
theorem dX3_takeToken_103 : decode cX3_takeToken 103 = .ok (.iconst 0, 1) := by decide +kernel
theorem dX3_takeToken_104 : decode cX3_takeToken 104 = .ok (.ireturn, 1) := by decide +kernel
theorem dX3_takeToken_105 : decode cX3_takeToken 105 = .ok (.aload_n 0, 1) := by decide +kernel
theorem dX3_takeToken_106 : decode cX3_takeToken 106 = .ok (.aload_n 0, 1) := by decide +kernel
theorem dX3_takeToken_107 : decode cX3_takeToken 107 = .ok (.getfield 31, 3) := by decide +kernel
theorem dX3_takeToken_110 : decode cX3_takeToken 110 = .ok (.putfield 44, 3) := by decide +kernel
theorem dX3_takeToken_113 : decode cX3_takeToken 113 = .ok (.aload_n 0, 1) := by decide +kernel
theorem dX3_takeToken_114 : decode cX3_takeToken 114 = .ok (.iconst 4, 1) := by decide +kernel
theorem dX3_takeToken_115 : decode cX3_takeToken 115 = .ok (.putfield 34, 3) := by decide +kernel
theorem dX3_takeToken_118 : decode cX3_takeToken 118 = .ok (.iconst 0, 1) := by decide +kernel
theorem dX3_takeToken_119 : decode cX3_takeToken 119 = .ok (.ireturn, 1) := by decide +kernel
theorem dX3_takeToken_120 : decode cX3_takeToken 120 = .ok (.aload_n 0, 1) := by decide +kernel
theorem dX3_takeToken_121 : decode cX3_takeToken 121 = .ok (.iconst 5, 1) := by decide +kernel
theorem dX3_takeToken_122 : decode cX3_takeToken 122 = .ok (.putfield 34, 3) := by decide +kernel
theorem dX3_takeToken_125 : decode cX3_takeToken 125 = .ok (.iconst 0, 1) := by decide +kernel
theorem dX3_takeToken_126 : decode cX3_takeToken 126 = .ok (.ireturn, 1) := by decide +kernel
theorem dX3_takeToken_127 : decode cX3_takeToken 127 = .ok (.aload_n 0, 1) := by decide +kernel
theorem dX3_takeToken_128 : decode cX3_takeToken 128 = .ok (.aload_n 0, 1) := by decide +kernel
theorem dX3_takeToken_129 : decode cX3_takeToken 129 = .ok (.getfield 31, 3) := by decide +kernel
theorem dX3_takeToken_132 : decode cX3_takeToken 132 = .ok (.putfield 47, 3) := by decide +kernel
theorem dX3_takeToken_135 : decode cX3_takeToken 135 = .ok (.aload_n 0, 1) := by decide +kernel
theorem dX3_takeToken_136 : decode cX3_takeToken 136 = .ok (.bipush 6, 2) := by decide +kernel
theorem dX3_takeToken_138 : decode cX3_takeToken 138 = .ok (.putfield 34, 3) := by decide +kernel
theorem dX3_takeToken_141 : decode cX3_takeToken 141 = .ok (.iconst 0, 1) := by decide +kernel
theorem dX3_takeToken_142 : decode cX3_takeToken 142 = .ok (.ireturn, 1) := by decide +kernel
theorem dX3_takeToken_143 : decode cX3_takeToken 143 = .ok (.aload_n 0, 1) := by decide +kernel
theorem dX3_takeToken_144 : decode cX3_takeToken 144 = .ok (.iconst 0, 1) := by decide +kernel
theorem dX3_takeToken_145 : decode cX3_takeToken 145 = .ok (.putfield 34, 3) := by decide +kernel
theorem dX3_takeToken_148 : decode cX3_takeToken 148 = .ok (.iconst 0, 1) := by decide +kernel
theorem dX3_takeToken_149 : decode cX3_takeToken 149 = .ok (.ireturn, 1) := by decide +kernel
theorem dX3_canStandHere_0 : decode cX3_canStandHere 0 = .ok (.aload_n 0, 1) := by decide +kernel
theorem dX3_canStandHere_1 : decode cX3_canStandHere 1 = .ok (.getfield 34, 3) := by decide +kernel
theorem dX3_canStandHere_4 : decode cX3_canStandHere 4 = .ok (.tableswitch 113 0 5 #[40, 84, 54, 84, 98, 84], 40) := by decide +kernel
theorem dX3_canStandHere_44 : decode cX3_canStandHere 44 = .ok (.aload_n 0, 1) := by decide +kernel
theorem dX3_canStandHere_45 : decode cX3_canStandHere 45 = .ok (.getfield 25, 3) := by decide +kernel
theorem dX3_canStandHere_48 : decode cX3_canStandHere 48 = .ok (.iconst 1, 1) := by decide +kernel
theorem dX3_canStandHere_49 : decode cX3_canStandHere 49 = .ok (.if_icmp .ne 7, 3) := by decide +kernel
theorem dX3_canStandHere_52 : decode cX3_canStandHere 52 = .ok (.iconst 1, 1) := by decide +kernel
theorem dX3_canStandHere_53 : decode cX3_canStandHere 53 = .ok (.goto 4, 3) := by decide +kernel
theorem dX3_canStandHere_56 : decode cX3_canStandHere 56 = .ok (.iconst 0, 1) := by decide +kernel
theorem dX3_canStandHere_57 : decode cX3_canStandHere 57 = .ok (.ireturn, 1) := by decide +kernel
theorem dX3_canStandHere_58 : decode cX3_canStandHere 58 = .ok (.aload_n 0, 1) := by decide +kernel
theorem dX3_canStandHere_59 : decode cX3_canStandHere 59 = .ok (.getfield 25, 3) := by decide +kernel
theorem dX3_canStandHere_62 : decode cX3_canStandHere 62 = .ok (.iconst 2, 1) := by decide +kernel
theorem dX3_canStandHere_63 : decode cX3_canStandHere 63 = .ok (.if_icmp .eq 19, 3) := by decide +kernel
theorem dX3_canStandHere_66 : decode cX3_canStandHere 66 = .ok (.aload_n 0, 1) := by decide +kernel
theorem dX3_canStandHere_67 : decode cX3_canStandHere 67 = .ok (.getfield 25, 3) := by decide +kernel
theorem dX3_canStandHere_70 : decode cX3_canStandHere 70 = .ok (.iconst 3, 1) := by decide +kernel
theorem dX3_canStandHere_71 : decode cX3_canStandHere 71 = .ok (.if_icmp .eq 11, 3) := by decide +kernel
theorem dX3_canStandHere_74 : decode cX3_canStandHere 74 = .ok (.aload_n 0, 1) := by decide +kernel
theorem dX3_canStandHere_75 : decode cX3_canStandHere 75 = .ok (.getfield 25, 3) := by decide +kernel
theorem dX3_canStandHere_78 : decode cX3_canStandHere 78 = .ok (.iconst 4, 1) := by decide +kernel
theorem dX3_canStandHere_79 : decode cX3_canStandHere 79 = .ok (.if_icmp .ne 7, 3) := by decide +kernel
theorem dX3_canStandHere_82 : decode cX3_canStandHere 82 = .ok (.iconst 1, 1) := by decide +kernel
theorem dX3_canStandHere_83 : decode cX3_canStandHere 83 = .ok (.goto 4, 3) := by decide +kernel
theorem dX3_canStandHere_86 : decode cX3_canStandHere 86 = .ok (.iconst 0, 1) := by decide +kernel
theorem dX3_canStandHere_87 : decode cX3_canStandHere 87 = .ok (.ireturn, 1) := by decide +kernel
theorem dX3_canStandHere_88 : decode cX3_canStandHere 88 = .ok (.aload_n 0, 1) := by decide +kernel
theorem dX3_canStandHere_89 : decode cX3_canStandHere 89 = .ok (.getfield 25, 3) := by decide +kernel
theorem dX3_canStandHere_92 : decode cX3_canStandHere 92 = .ok (.iconst 5, 1) := by decide +kernel
theorem dX3_canStandHere_93 : decode cX3_canStandHere 93 = .ok (.if_icmp .ne 7, 3) := by decide +kernel
theorem dX3_canStandHere_96 : decode cX3_canStandHere 96 = .ok (.iconst 1, 1) := by decide +kernel
theorem dX3_canStandHere_97 : decode cX3_canStandHere 97 = .ok (.goto 4, 3) := by decide +kernel
theorem dX3_canStandHere_100 : decode cX3_canStandHere 100 = .ok (.iconst 0, 1) := by decide +kernel
theorem dX3_canStandHere_101 : decode cX3_canStandHere 101 = .ok (.ireturn, 1) := by decide +kernel
theorem dX3_canStandHere_102 : decode cX3_canStandHere 102 = .ok (.aload_n 0, 1) := by decide +kernel
theorem dX3_canStandHere_103 : decode cX3_canStandHere 103 = .ok (.getfield 25, 3) := by decide +kernel
theorem dX3_canStandHere_106 : decode cX3_canStandHere 106 = .ok (.bipush 7, 2) := by decide +kernel
theorem dX3_canStandHere_108 : decode cX3_canStandHere 108 = .ok (.if_icmp .ne 7, 3) := by decide +kernel
theorem dX3_canStandHere_111 : decode cX3_canStandHere 111 = .ok (.iconst 1, 1) := by decide +kernel
theorem dX3_canStandHere_112 : decode cX3_canStandHere 112 = .ok (.goto 4, 3) := by decide +kernel
theorem dX3_canStandHere_115 : decode cX3_canStandHere 115 = .ok (.iconst 0, 1) := by decide +kernel
theorem dX3_canStandHere_116 : decode cX3_canStandHere 116 = .ok (.ireturn, 1) := by decide +kernel
theorem dX3_canStandHere_117 : decode cX3_canStandHere 117 = .ok (.aload_n 0, 1) := by decide +kernel
theorem dX3_canStandHere_118 : decode cX3_canStandHere 118 = .ok (.getfield 25, 3) := by decide +kernel
theorem dX3_canStandHere_121 : decode cX3_canStandHere 121 = .ok (.bipush 6, 2) := by decide +kernel
theorem dX3_canStandHere_123 : decode cX3_canStandHere 123 = .ok (.if_icmp .ne 7, 3) := by decide +kernel
theorem dX3_canStandHere_126 : decode cX3_canStandHere 126 = .ok (.iconst 1, 1) := by decide +kernel
theorem dX3_canStandHere_127 : decode cX3_canStandHere 127 = .ok (.goto 4, 3) := by decide +kernel
theorem dX3_canStandHere_130 : decode cX3_canStandHere 130 = .ok (.iconst 0, 1) := by decide +kernel
theorem dX3_canStandHere_131 : decode cX3_canStandHere 131 = .ok (.ireturn, 1) := by decide +kernel
theorem dX3_takeWay_0 : decode cX3_takeWay 0 = .ok (.aload_n 0, 1) := by decide +kernel
theorem dX3_takeWay_1 : decode cX3_takeWay 1 = .ok (.getfield 25, 3) := by decide +kernel
theorem dX3_takeWay_4 : decode cX3_takeWay 4 = .ok (.lookupswitch 50 #[(3, 28), (4, 39)], 28) := by decide +kernel
theorem dX3_takeWay_32 : decode cX3_takeWay 32 = .ok (.aload_n 0, 1) := by decide +kernel
theorem dX3_takeWay_33 : decode cX3_takeWay 33 = .ok (.iconst 1, 1) := by decide +kernel
theorem dX3_takeWay_34 : decode cX3_takeWay 34 = .ok (.putfield 41, 3) := by decide +kernel
theorem dX3_takeWay_37 : decode cX3_takeWay 37 = .ok (.aload_n 0, 1) := by decide +kernel
theorem dX3_takeWay_38 : decode cX3_takeWay 38 = .ok (.iconst 5, 1) := by decide +kernel
theorem dX3_takeWay_39 : decode cX3_takeWay 39 = .ok (.putfield 34, 3) := by decide +kernel
theorem dX3_takeWay_42 : decode cX3_takeWay 42 = .ok (.return_, 1) := by decide +kernel
theorem dX3_takeWay_43 : decode cX3_takeWay 43 = .ok (.aload_n 0, 1) := by decide +kernel
theorem dX3_takeWay_44 : decode cX3_takeWay 44 = .ok (.iconst 2, 1) := by decide +kernel
theorem dX3_takeWay_45 : decode cX3_takeWay 45 = .ok (.putfield 41, 3) := by decide +kernel
theorem dX3_takeWay_48 : decode cX3_takeWay 48 = .ok (.aload_n 0, 1) := by decide +kernel
theorem dX3_takeWay_49 : decode cX3_takeWay 49 = .ok (.iconst 3, 1) := by decide +kernel
theorem dX3_takeWay_50 : decode cX3_takeWay 50 = .ok (.putfield 34, 3) := by decide +kernel
theorem dX3_takeWay_53 : decode cX3_takeWay 53 = .ok (.return_, 1) := by decide +kernel
theorem dX3_takeWay_54 : decode cX3_takeWay 54 = .ok (.aload_n 0, 1) := by decide +kernel
theorem dX3_takeWay_55 : decode cX3_takeWay 55 = .ok (.iconst 0, 1) := by decide +kernel
theorem dX3_takeWay_56 : decode cX3_takeWay 56 = .ok (.putfield 41, 3) := by decide +kernel
theorem dX3_takeWay_59 : decode cX3_takeWay 59 = .ok (.aload_n 0, 1) := by decide +kernel
theorem dX3_takeWay_60 : decode cX3_takeWay 60 = .ok (.bipush 6, 2) := by decide +kernel
theorem dX3_takeWay_62 : decode cX3_takeWay 62 = .ok (.putfield 34, 3) := by decide +kernel
theorem dX3_takeWay_65 : decode cX3_takeWay 65 = .ok (.return_, 1) := by decide +kernel
theorem dX3_readToken_0 : decode cX3_readToken 0 = .ok (.aload_n 0, 1) := by decide +kernel
theorem dX3_readToken_1 : decode cX3_readToken 1 = .ok (.getfield 22, 3) := by decide +kernel
theorem dX3_readToken_4 : decode cX3_readToken 4 = .ok (.aload_n 0, 1) := by decide +kernel
theorem dX3_readToken_5 : decode cX3_readToken 5 = .ok (.getfield 15, 3) := by decide +kernel
theorem dX3_readToken_8 : decode cX3_readToken 8 = .ok (.if_icmp .ge 42, 3) := by decide +kernel
theorem dX3_readToken_11 : decode cX3_readToken 11 = .ok (.aload_n 0, 1) := by decide +kernel
theorem dX3_readToken_12 : decode cX3_readToken 12 = .ok (.aload_n 0, 1) := by decide +kernel
theorem dX3_readToken_13 : decode cX3_readToken 13 = .ok (.getfield 22, 3) := by decide +kernel
theorem dX3_readToken_16 : decode cX3_readToken 16 = .ok (.invokevirtual 86, 3) := by decide +kernel
theorem dX3_readToken_19 : decode cX3_readToken 19 = .ok (.bipush 32, 2) := by decide +kernel
theorem dX3_readToken_21 : decode cX3_readToken 21 = .ok (.if_icmp .eq 16, 3) := by decide +kernel
theorem dX3_readToken_24 : decode cX3_readToken 24 = .ok (.aload_n 0, 1) := by decide +kernel
theorem dX3_readToken_25 : decode cX3_readToken 25 = .ok (.aload_n 0, 1) := by decide +kernel
theorem dX3_readToken_26 : decode cX3_readToken 26 = .ok (.getfield 22, 3) := by decide +kernel
theorem dX3_readToken_29 : decode cX3_readToken 29 = .ok (.invokevirtual 86, 3) := by decide +kernel
theorem dX3_readToken_32 : decode cX3_readToken 32 = .ok (.bipush 10, 2) := by decide +kernel
theorem dX3_readToken_34 : decode cX3_readToken 34 = .ok (.if_icmp .ne 16, 3) := by decide +kernel
theorem dX3_readToken_37 : decode cX3_readToken 37 = .ok (.aload_n 0, 1) := by decide +kernel
theorem dX3_readToken_38 : decode cX3_readToken 38 = .ok (.dup, 1) := by decide +kernel
theorem dX3_readToken_39 : decode cX3_readToken 39 = .ok (.getfield 22, 3) := by decide +kernel
theorem dX3_readToken_42 : decode cX3_readToken 42 = .ok (.iconst 1, 1) := by decide +kernel
theorem dX3_readToken_43 : decode cX3_readToken 43 = .ok (.iadd, 1) := by decide +kernel
theorem dX3_readToken_44 : decode cX3_readToken 44 = .ok (.putfield 22, 3) := by decide +kernel
theorem dX3_readToken_47 : decode cX3_readToken 47 = .ok (.goto (-47), 3) := by decide +kernel
theorem dX3_readToken_50 : decode cX3_readToken 50 = .ok (.aload_n 0, 1) := by decide +kernel
theorem dX3_readToken_51 : decode cX3_readToken 51 = .ok (.aload_n 0, 1) := by decide +kernel
theorem dX3_readToken_52 : decode cX3_readToken 52 = .ok (.getfield 22, 3) := by decide +kernel
theorem dX3_readToken_55 : decode cX3_readToken 55 = .ok (.putfield 28, 3) := by decide +kernel
theorem dX3_readToken_58 : decode cX3_readToken 58 = .ok (.aload_n 0, 1) := by decide +kernel
theorem dX3_readToken_59 : decode cX3_readToken 59 = .ok (.aload_n 0, 1) := by decide +kernel
theorem dX3_readToken_60 : decode cX3_readToken 60 = .ok (.getfield 28, 3) := by decide +kernel
theorem dX3_readToken_63 : decode cX3_readToken 63 = .ok (.invokevirtual 86, 3) := by decide +kernel
theorem dX3_readToken_66 : decode cX3_readToken 66 = .ok (.istore_n 1, 1) := by decide +kernel
theorem dX3_readToken_67 : decode cX3_readToken 67 = .ok (.iload_n 1, 1) := by decide +kernel
theorem dX3_readToken_68 : decode cX3_readToken 68 = .ok (.ifCond .ge 11, 3) := by decide +kernel
theorem dX3_readToken_71 : decode cX3_readToken 71 = .ok (.aload_n 0, 1) := by decide +kernel
theorem dX3_readToken_72 : decode cX3_readToken 72 = .ok (.iconst 0, 1) := by decide +kernel
theorem dX3_readToken_73 : decode cX3_readToken 73 = .ok (.putfield 25, 3) := by decide +kernel
theorem dX3_readToken_76 : decode cX3_readToken 76 = .ok (.goto 153, 3) := by decide +kernel
theorem dX3_readToken_79 : decode cX3_readToken 79 = .ok (.iload_n 1, 1) := by decide +kernel
theorem dX3_readToken_80 : decode cX3_readToken 80 = .ok (.invokestatic 90, 3) := by decide +kernel
theorem dX3_readToken_83 : decode cX3_readToken 83 = .ok (.ifCond .eq 52, 3) := by decide +kernel
theorem dX3_readToken_86 : decode cX3_readToken 86 = .ok (.aload_n 0, 1) := by decide +kernel
theorem dX3_readToken_87 : decode cX3_readToken 87 = .ok (.getfield 22, 3) := by decide +kernel
theorem dX3_readToken_90 : decode cX3_readToken 90 = .ok (.aload_n 0, 1) := by decide +kernel
theorem dX3_readToken_91 : decode cX3_readToken 91 = .ok (.getfield 15, 3) := by decide +kernel
theorem dX3_readToken_94 : decode cX3_readToken 94 = .ok (.if_icmp .ge 30, 3) := by decide +kernel
theorem dX3_readToken_97 : decode cX3_readToken 97 = .ok (.aload_n 0, 1) := by decide +kernel
theorem dX3_readToken_98 : decode cX3_readToken 98 = .ok (.aload_n 0, 1) := by decide +kernel
theorem dX3_readToken_99 : decode cX3_readToken 99 = .ok (.getfield 22, 3) := by decide +kernel
theorem dX3_readToken_102 : decode cX3_readToken 102 = .ok (.invokevirtual 86, 3) := by decide +kernel
theorem dX3_readToken_105 : decode cX3_readToken 105 = .ok (.invokestatic 90, 3) := by decide +kernel
theorem dX3_readToken_108 : decode cX3_readToken 108 = .ok (.ifCond .eq 16, 3) := by decide +kernel
theorem dX3_readToken_111 : decode cX3_readToken 111 = .ok (.aload_n 0, 1) := by decide +kernel
theorem dX3_readToken_112 : decode cX3_readToken 112 = .ok (.dup, 1) := by decide +kernel
theorem dX3_readToken_113 : decode cX3_readToken 113 = .ok (.getfield 22, 3) := by decide +kernel
theorem dX3_readToken_116 : decode cX3_readToken 116 = .ok (.iconst 1, 1) := by decide +kernel
theorem dX3_readToken_117 : decode cX3_readToken 117 = .ok (.iadd, 1) := by decide +kernel
theorem dX3_readToken_118 : decode cX3_readToken 118 = .ok (.putfield 22, 3) := by decide +kernel
theorem dX3_readToken_121 : decode cX3_readToken 121 = .ok (.goto (-35), 3) := by decide +kernel
theorem dX3_readToken_124 : decode cX3_readToken 124 = .ok (.aload_n 0, 1) := by decide +kernel
theorem dX3_readToken_125 : decode cX3_readToken 125 = .ok (.aload_n 0, 1) := by decide +kernel
theorem dX3_readToken_126 : decode cX3_readToken 126 = .ok (.invokevirtual 94, 3) := by decide +kernel
theorem dX3_readToken_129 : decode cX3_readToken 129 = .ok (.putfield 25, 3) := by decide +kernel
theorem dX3_readToken_132 : decode cX3_readToken 132 = .ok (.goto 97, 3) := by decide +kernel
theorem dX3_readToken_135 : decode cX3_readToken 135 = .ok (.iload_n 1, 1) := by decide +kernel
theorem dX3_readToken_136 : decode cX3_readToken 136 = .ok (.invokestatic 98, 3) := by decide +kernel
theorem dX3_readToken_139 : decode cX3_readToken 139 = .ok (.ifCond .eq 52, 3) := by decide +kernel
theorem dX3_readToken_142 : decode cX3_readToken 142 = .ok (.aload_n 0, 1) := by decide +kernel
theorem dX3_readToken_143 : decode cX3_readToken 143 = .ok (.getfield 22, 3) := by decide +kernel
theorem dX3_readToken_146 : decode cX3_readToken 146 = .ok (.aload_n 0, 1) := by decide +kernel
theorem dX3_readToken_147 : decode cX3_readToken 147 = .ok (.getfield 15, 3) := by decide +kernel
theorem dX3_readToken_150 : decode cX3_readToken 150 = .ok (.if_icmp .ge 30, 3) := by decide +kernel
theorem dX3_readToken_153 : decode cX3_readToken 153 = .ok (.aload_n 0, 1) := by decide +kernel
theorem dX3_readToken_154 : decode cX3_readToken 154 = .ok (.aload_n 0, 1) := by decide +kernel
theorem dX3_readToken_155 : decode cX3_readToken 155 = .ok (.getfield 22, 3) := by decide +kernel
theorem dX3_readToken_158 : decode cX3_readToken 158 = .ok (.invokevirtual 86, 3) := by decide +kernel
theorem dX3_readToken_161 : decode cX3_readToken 161 = .ok (.invokestatic 98, 3) := by decide +kernel
theorem dX3_readToken_164 : decode cX3_readToken 164 = .ok (.ifCond .eq 16, 3) := by decide +kernel
theorem dX3_readToken_167 : decode cX3_readToken 167 = .ok (.aload_n 0, 1) := by decide +kernel
theorem dX3_readToken_168 : decode cX3_readToken 168 = .ok (.dup, 1) := by decide +kernel
theorem dX3_readToken_169 : decode cX3_readToken 169 = .ok (.getfield 22, 3) := by decide +kernel
theorem dX3_readToken_172 : decode cX3_readToken 172 = .ok (.iconst 1, 1) := by decide +kernel
theorem dX3_readToken_173 : decode cX3_readToken 173 = .ok (.iadd, 1) := by decide +kernel
theorem dX3_readToken_174 : decode cX3_readToken 174 = .ok (.putfield 22, 3) := by decide +kernel
theorem dX3_readToken_177 : decode cX3_readToken 177 = .ok (.goto (-35), 3) := by decide +kernel
theorem dX3_readToken_180 : decode cX3_readToken 180 = .ok (.aload_n 0, 1) := by decide +kernel
theorem dX3_readToken_181 : decode cX3_readToken 181 = .ok (.aload_n 0, 1) := by decide +kernel
theorem dX3_readToken_182 : decode cX3_readToken 182 = .ok (.invokevirtual 101, 3) := by decide +kernel
theorem dX3_readToken_185 : decode cX3_readToken 185 = .ok (.putfield 25, 3) := by decide +kernel
theorem dX3_readToken_188 : decode cX3_readToken 188 = .ok (.goto 41, 3) := by decide +kernel
theorem dX3_readToken_191 : decode cX3_readToken 191 = .ok (.aload_n 0, 1) := by decide +kernel
theorem dX3_readToken_192 : decode cX3_readToken 192 = .ok (.dup, 1) := by decide +kernel
theorem dX3_readToken_193 : decode cX3_readToken 193 = .ok (.getfield 22, 3) := by decide +kernel
theorem dX3_readToken_196 : decode cX3_readToken 196 = .ok (.iconst 1, 1) := by decide +kernel
theorem dX3_readToken_197 : decode cX3_readToken 197 = .ok (.iadd, 1) := by decide +kernel
theorem dX3_readToken_198 : decode cX3_readToken 198 = .ok (.putfield 22, 3) := by decide +kernel
theorem dX3_readToken_201 : decode cX3_readToken 201 = .ok (.aload_n 0, 1) := by decide +kernel
theorem dX3_readToken_202 : decode cX3_readToken 202 = .ok (.iload_n 1, 1) := by decide +kernel
theorem dX3_readToken_203 : decode cX3_readToken 203 = .ok (.bipush 59, 2) := by decide +kernel
theorem dX3_readToken_205 : decode cX3_readToken 205 = .ok (.if_icmp .ne 8, 3) := by decide +kernel
theorem dX3_readToken_208 : decode cX3_readToken 208 = .ok (.bipush 6, 2) := by decide +kernel
theorem dX3_readToken_210 : decode cX3_readToken 210 = .ok (.goto 16, 3) := by decide +kernel
theorem dX3_readToken_213 : decode cX3_readToken 213 = .ok (.iload_n 1, 1) := by decide +kernel
theorem dX3_readToken_214 : decode cX3_readToken 214 = .ok (.bipush 64, 2) := by decide +kernel
theorem dX3_readToken_216 : decode cX3_readToken 216 = .ok (.if_icmp .ne 8, 3) := by decide +kernel
theorem dX3_readToken_219 : decode cX3_readToken 219 = .ok (.bipush 7, 2) := by decide +kernel
theorem dX3_readToken_221 : decode cX3_readToken 221 = .ok (.goto 5, 3) := by decide +kernel
theorem dX3_readToken_224 : decode cX3_readToken 224 = .ok (.bipush 8, 2) := by decide +kernel
theorem dX3_readToken_226 : decode cX3_readToken 226 = .ok (.putfield 25, 3) := by decide +kernel
theorem dX3_readToken_229 : decode cX3_readToken 229 = .ok (.return_, 1) := by decide +kernel
theorem dX3_nameToken_0 : decode cX3_nameToken 0 = .ok (.aload_n 0, 1) := by decide +kernel
theorem dX3_nameToken_1 : decode cX3_nameToken 1 = .ok (.getfield 22, 3) := by decide +kernel
theorem dX3_nameToken_4 : decode cX3_nameToken 4 = .ok (.aload_n 0, 1) := by decide +kernel
theorem dX3_nameToken_5 : decode cX3_nameToken 5 = .ok (.getfield 28, 3) := by decide +kernel
theorem dX3_nameToken_8 : decode cX3_nameToken 8 = .ok (.isub, 1) := by decide +kernel
theorem dX3_nameToken_9 : decode cX3_nameToken 9 = .ok (.bipush 6, 2) := by decide +kernel
theorem dX3_nameToken_11 : decode cX3_nameToken 11 = .ok (.if_icmp .le 6, 3) := by decide +kernel
theorem dX3_nameToken_14 : decode cX3_nameToken 14 = .ok (.bipush 8, 2) := by decide +kernel
theorem dX3_nameToken_16 : decode cX3_nameToken 16 = .ok (.ireturn, 1) := by decide +kernel
theorem dX3_nameToken_17 : decode cX3_nameToken 17 = .ok (.aload_n 0, 1) := by decide +kernel
theorem dX3_nameToken_18 : decode cX3_nameToken 18 = .ok (.ldc 104, 2) := by decide +kernel
theorem dX3_nameToken_20 : decode cX3_nameToken 20 = .ok (.invokevirtual 106, 3) := by decide +kernel
theorem dX3_nameToken_23 : decode cX3_nameToken 23 = .ok (.ifCond .eq 5, 3) := by decide +kernel
theorem dX3_nameToken_26 : decode cX3_nameToken 26 = .ok (.iconst 1, 1) := by decide +kernel
theorem dX3_nameToken_27 : decode cX3_nameToken 27 = .ok (.ireturn, 1) := by decide +kernel
theorem dX3_nameToken_28 : decode cX3_nameToken 28 = .ok (.aload_n 0, 1) := by decide +kernel
theorem dX3_nameToken_29 : decode cX3_nameToken 29 = .ok (.ldc 110, 2) := by decide +kernel
theorem dX3_nameToken_31 : decode cX3_nameToken 31 = .ok (.invokevirtual 106, 3) := by decide +kernel
theorem dX3_nameToken_34 : decode cX3_nameToken 34 = .ok (.ifCond .eq 5, 3) := by decide +kernel
theorem dX3_nameToken_37 : decode cX3_nameToken 37 = .ok (.iconst 2, 1) := by decide +kernel
theorem dX3_nameToken_38 : decode cX3_nameToken 38 = .ok (.ireturn, 1) := by decide +kernel
theorem dX3_nameToken_39 : decode cX3_nameToken 39 = .ok (.aload_n 0, 1) := by decide +kernel
theorem dX3_nameToken_40 : decode cX3_nameToken 40 = .ok (.ldc 112, 2) := by decide +kernel
theorem dX3_nameToken_42 : decode cX3_nameToken 42 = .ok (.invokevirtual 106, 3) := by decide +kernel
theorem dX3_nameToken_45 : decode cX3_nameToken 45 = .ok (.ifCond .eq 5, 3) := by decide +kernel
theorem dX3_nameToken_48 : decode cX3_nameToken 48 = .ok (.iconst 3, 1) := by decide +kernel
theorem dX3_nameToken_49 : decode cX3_nameToken 49 = .ok (.ireturn, 1) := by decide +kernel
theorem dX3_nameToken_50 : decode cX3_nameToken 50 = .ok (.aload_n 0, 1) := by decide +kernel
theorem dX3_nameToken_51 : decode cX3_nameToken 51 = .ok (.ldc 114, 2) := by decide +kernel
theorem dX3_nameToken_53 : decode cX3_nameToken 53 = .ok (.invokevirtual 106, 3) := by decide +kernel
theorem dX3_nameToken_56 : decode cX3_nameToken 56 = .ok (.ifCond .eq 7, 3) := by decide +kernel
theorem dX3_nameToken_59 : decode cX3_nameToken 59 = .ok (.iconst 4, 1) := by decide +kernel
theorem dX3_nameToken_60 : decode cX3_nameToken 60 = .ok (.goto 5, 3) := by decide +kernel
theorem dX3_nameToken_63 : decode cX3_nameToken 63 = .ok (.bipush 8, 2) := by decide +kernel
theorem dX3_nameToken_65 : decode cX3_nameToken 65 = .ok (.ireturn, 1) := by decide +kernel
theorem dX3_isName_0 : decode cX3_isName 0 = .ok (.aload_n 1, 1) := by decide +kernel
theorem dX3_isName_1 : decode cX3_isName 1 = .ok (.invokevirtual 116, 3) := by decide +kernel
theorem dX3_isName_4 : decode cX3_isName 4 = .ok (.aload_n 0, 1) := by decide +kernel
theorem dX3_isName_5 : decode cX3_isName 5 = .ok (.getfield 22, 3) := by decide +kernel
theorem dX3_isName_8 : decode cX3_isName 8 = .ok (.aload_n 0, 1) := by decide +kernel
theorem dX3_isName_9 : decode cX3_isName 9 = .ok (.getfield 28, 3) := by decide +kernel
theorem dX3_isName_12 : decode cX3_isName 12 = .ok (.isub, 1) := by decide +kernel
theorem dX3_isName_13 : decode cX3_isName 13 = .ok (.if_icmp .eq 5, 3) := by decide +kernel
theorem dX3_isName_16 : decode cX3_isName 16 = .ok (.iconst 0, 1) := by decide +kernel
theorem dX3_isName_17 : decode cX3_isName 17 = .ok (.ireturn, 1) := by decide +kernel
theorem dX3_isName_18 : decode cX3_isName 18 = .ok (.iconst 0, 1) := by decide +kernel
theorem dX3_isName_19 : decode cX3_isName 19 = .ok (.istore_n 2, 1) := by decide +kernel
theorem dX3_isName_20 : decode cX3_isName 20 = .ok (.iload_n 2, 1) := by decide +kernel
theorem dX3_isName_21 : decode cX3_isName 21 = .ok (.aload_n 1, 1) := by decide +kernel
theorem dX3_isName_22 : decode cX3_isName 22 = .ok (.invokevirtual 116, 3) := by decide +kernel
theorem dX3_isName_25 : decode cX3_isName 25 = .ok (.if_icmp .ge 29, 3) := by decide +kernel
theorem dX3_isName_28 : decode cX3_isName 28 = .ok (.aload_n 1, 1) := by decide +kernel
theorem dX3_isName_29 : decode cX3_isName 29 = .ok (.iload_n 2, 1) := by decide +kernel
theorem dX3_isName_30 : decode cX3_isName 30 = .ok (.invokevirtual 121, 3) := by decide +kernel
theorem dX3_isName_33 : decode cX3_isName 33 = .ok (.aload_n 0, 1) := by decide +kernel
theorem dX3_isName_34 : decode cX3_isName 34 = .ok (.aload_n 0, 1) := by decide +kernel
theorem dX3_isName_35 : decode cX3_isName 35 = .ok (.getfield 28, 3) := by decide +kernel
theorem dX3_isName_38 : decode cX3_isName 38 = .ok (.iload_n 2, 1) := by decide +kernel
theorem dX3_isName_39 : decode cX3_isName 39 = .ok (.iadd, 1) := by decide +kernel
theorem dX3_isName_40 : decode cX3_isName 40 = .ok (.invokevirtual 86, 3) := by decide +kernel
theorem dX3_isName_43 : decode cX3_isName 43 = .ok (.if_icmp .eq 5, 3) := by decide +kernel
theorem dX3_isName_46 : decode cX3_isName 46 = .ok (.iconst 0, 1) := by decide +kernel
theorem dX3_isName_47 : decode cX3_isName 47 = .ok (.ireturn, 1) := by decide +kernel
theorem dX3_isName_48 : decode cX3_isName 48 = .ok (.iinc 2 1, 3) := by decide +kernel
theorem dX3_isName_51 : decode cX3_isName 51 = .ok (.goto (-31), 3) := by decide +kernel
theorem dX3_isName_54 : decode cX3_isName 54 = .ok (.iconst 1, 1) := by decide +kernel
theorem dX3_isName_55 : decode cX3_isName 55 = .ok (.ireturn, 1) := by decide +kernel
theorem dX3_numberToken_0 : decode cX3_numberToken 0 = .ok (.aload_n 0, 1) := by decide +kernel
theorem dX3_numberToken_1 : decode cX3_numberToken 1 = .ok (.getfield 22, 3) := by decide +kernel
theorem dX3_numberToken_4 : decode cX3_numberToken 4 = .ok (.aload_n 0, 1) := by decide +kernel
theorem dX3_numberToken_5 : decode cX3_numberToken 5 = .ok (.getfield 28, 3) := by decide +kernel
theorem dX3_numberToken_8 : decode cX3_numberToken 8 = .ok (.isub, 1) := by decide +kernel
theorem dX3_numberToken_9 : decode cX3_numberToken 9 = .ok (.iconst 5, 1) := by decide +kernel
theorem dX3_numberToken_10 : decode cX3_numberToken 10 = .ok (.if_icmp .le 6, 3) := by decide +kernel
theorem dX3_numberToken_13 : decode cX3_numberToken 13 = .ok (.bipush 8, 2) := by decide +kernel
theorem dX3_numberToken_15 : decode cX3_numberToken 15 = .ok (.ireturn, 1) := by decide +kernel
theorem dX3_numberToken_16 : decode cX3_numberToken 16 = .ok (.aload_n 0, 1) := by decide +kernel
theorem dX3_numberToken_17 : decode cX3_numberToken 17 = .ok (.iconst 0, 1) := by decide +kernel
theorem dX3_numberToken_18 : decode cX3_numberToken 18 = .ok (.putfield 31, 3) := by decide +kernel
theorem dX3_numberToken_21 : decode cX3_numberToken 21 = .ok (.aload_n 0, 1) := by decide +kernel
theorem dX3_numberToken_22 : decode cX3_numberToken 22 = .ok (.getfield 28, 3) := by decide +kernel
theorem dX3_numberToken_25 : decode cX3_numberToken 25 = .ok (.istore_n 1, 1) := by decide +kernel
theorem dX3_numberToken_26 : decode cX3_numberToken 26 = .ok (.iload_n 1, 1) := by decide +kernel
theorem dX3_numberToken_27 : decode cX3_numberToken 27 = .ok (.aload_n 0, 1) := by decide +kernel
theorem dX3_numberToken_28 : decode cX3_numberToken 28 = .ok (.getfield 22, 3) := by decide +kernel
theorem dX3_numberToken_31 : decode cX3_numberToken 31 = .ok (.if_icmp .ge 29, 3) := by decide +kernel
theorem dX3_numberToken_34 : decode cX3_numberToken 34 = .ok (.aload_n 0, 1) := by decide +kernel
theorem dX3_numberToken_35 : decode cX3_numberToken 35 = .ok (.aload_n 0, 1) := by decide +kernel
theorem dX3_numberToken_36 : decode cX3_numberToken 36 = .ok (.getfield 31, 3) := by decide +kernel
theorem dX3_numberToken_39 : decode cX3_numberToken 39 = .ok (.bipush 10, 2) := by decide +kernel
theorem dX3_numberToken_41 : decode cX3_numberToken 41 = .ok (.imul, 1) := by decide +kernel
theorem dX3_numberToken_42 : decode cX3_numberToken 42 = .ok (.aload_n 0, 1) := by decide +kernel
theorem dX3_numberToken_43 : decode cX3_numberToken 43 = .ok (.iload_n 1, 1) := by decide +kernel
theorem dX3_numberToken_44 : decode cX3_numberToken 44 = .ok (.invokevirtual 86, 3) := by decide +kernel
theorem dX3_numberToken_47 : decode cX3_numberToken 47 = .ok (.iadd, 1) := by decide +kernel
theorem dX3_numberToken_48 : decode cX3_numberToken 48 = .ok (.bipush 48, 2) := by decide +kernel
theorem dX3_numberToken_50 : decode cX3_numberToken 50 = .ok (.isub, 1) := by decide +kernel
theorem dX3_numberToken_51 : decode cX3_numberToken 51 = .ok (.putfield 31, 3) := by decide +kernel
theorem dX3_numberToken_54 : decode cX3_numberToken 54 = .ok (.iinc 1 1, 3) := by decide +kernel
theorem dX3_numberToken_57 : decode cX3_numberToken 57 = .ok (.goto (-31), 3) := by decide +kernel
theorem dX3_numberToken_60 : decode cX3_numberToken 60 = .ok (.iconst 5, 1) := by decide +kernel
theorem dX3_numberToken_61 : decode cX3_numberToken 61 = .ok (.ireturn, 1) := by decide +kernel
theorem dX3_isLetter_0 : decode cX3_isLetter 0 = .ok (.iload_n 0, 1) := by decide +kernel
theorem dX3_isLetter_1 : decode cX3_isLetter 1 = .ok (.bipush 97, 2) := by decide +kernel
theorem dX3_isLetter_3 : decode cX3_isLetter 3 = .ok (.if_icmp .lt 13, 3) := by decide +kernel
theorem dX3_isLetter_6 : decode cX3_isLetter 6 = .ok (.iload_n 0, 1) := by decide +kernel
theorem dX3_isLetter_7 : decode cX3_isLetter 7 = .ok (.bipush 122, 2) := by decide +kernel
theorem dX3_isLetter_9 : decode cX3_isLetter 9 = .ok (.if_icmp .gt 7, 3) := by decide +kernel
theorem dX3_isLetter_12 : decode cX3_isLetter 12 = .ok (.iconst 1, 1) := by decide +kernel
theorem dX3_isLetter_13 : decode cX3_isLetter 13 = .ok (.goto 4, 3) := by decide +kernel
theorem dX3_isLetter_16 : decode cX3_isLetter 16 = .ok (.iconst 0, 1) := by decide +kernel
theorem dX3_isLetter_17 : decode cX3_isLetter 17 = .ok (.ireturn, 1) := by decide +kernel
theorem dX3_isFigure_0 : decode cX3_isFigure 0 = .ok (.iload_n 0, 1) := by decide +kernel
theorem dX3_isFigure_1 : decode cX3_isFigure 1 = .ok (.bipush 48, 2) := by decide +kernel
theorem dX3_isFigure_3 : decode cX3_isFigure 3 = .ok (.if_icmp .lt 13, 3) := by decide +kernel
theorem dX3_isFigure_6 : decode cX3_isFigure 6 = .ok (.iload_n 0, 1) := by decide +kernel
theorem dX3_isFigure_7 : decode cX3_isFigure 7 = .ok (.bipush 57, 2) := by decide +kernel
theorem dX3_isFigure_9 : decode cX3_isFigure 9 = .ok (.if_icmp .gt 7, 3) := by decide +kernel
theorem dX3_isFigure_12 : decode cX3_isFigure 12 = .ok (.iconst 1, 1) := by decide +kernel
theorem dX3_isFigure_13 : decode cX3_isFigure 13 = .ok (.goto 4, 3) := by decide +kernel
theorem dX3_isFigure_16 : decode cX3_isFigure 16 = .ok (.iconst 0, 1) := by decide +kernel
theorem dX3_isFigure_17 : decode cX3_isFigure 17 = .ok (.ireturn, 1) := by decide +kernel
theorem dX3_byteAt_0 : decode cX3_byteAt 0 = .ok (.iload_n 1, 1) := by decide +kernel
theorem dX3_byteAt_1 : decode cX3_byteAt 1 = .ok (.ifCond .lt 20, 3) := by decide +kernel
theorem dX3_byteAt_4 : decode cX3_byteAt 4 = .ok (.iload_n 1, 1) := by decide +kernel
theorem dX3_byteAt_5 : decode cX3_byteAt 5 = .ok (.aload_n 0, 1) := by decide +kernel
theorem dX3_byteAt_6 : decode cX3_byteAt 6 = .ok (.getfield 15, 3) := by decide +kernel
theorem dX3_byteAt_9 : decode cX3_byteAt 9 = .ok (.if_icmp .ge 12, 3) := by decide +kernel
theorem dX3_byteAt_12 : decode cX3_byteAt 12 = .ok (.iload_n 1, 1) := by decide +kernel
theorem dX3_byteAt_13 : decode cX3_byteAt 13 = .ok (.aload_n 0, 1) := by decide +kernel
theorem dX3_byteAt_14 : decode cX3_byteAt 14 = .ok (.getfield 11, 3) := by decide +kernel
theorem dX3_byteAt_17 : decode cX3_byteAt 17 = .ok (.arraylength, 1) := by decide +kernel
theorem dX3_byteAt_18 : decode cX3_byteAt 18 = .ok (.if_icmp .lt 7, 3) := by decide +kernel
theorem dX3_byteAt_21 : decode cX3_byteAt 21 = .ok (.iconst (-1), 1) := by decide +kernel
theorem dX3_byteAt_22 : decode cX3_byteAt 22 = .ok (.goto 13, 3) := by decide +kernel
theorem dX3_byteAt_25 : decode cX3_byteAt 25 = .ok (.aload_n 0, 1) := by decide +kernel
theorem dX3_byteAt_26 : decode cX3_byteAt 26 = .ok (.getfield 11, 3) := by decide +kernel
theorem dX3_byteAt_29 : decode cX3_byteAt 29 = .ok (.iload_n 1, 1) := by decide +kernel
theorem dX3_byteAt_30 : decode cX3_byteAt 30 = .ok (.baload, 1) := by decide +kernel
theorem dX3_byteAt_31 : decode cX3_byteAt 31 = .ok (.sipush 255, 3) := by decide +kernel
theorem dX3_byteAt_34 : decode cX3_byteAt 34 = .ok (.iand, 1) := by decide +kernel
theorem dX3_byteAt_35 : decode cX3_byteAt 35 = .ok (.ireturn, 1) := by decide +kernel
theorem dX4_init_0 : decode cX4_init 0 = .ok (.aload_n 0, 1) := by decide +kernel
theorem dX4_init_1 : decode cX4_init 1 = .ok (.invokespecial 3, 3) := by decide +kernel
theorem dX4_init_4 : decode cX4_init 4 = .ok (.aload_n 0, 1) := by decide +kernel
theorem dX4_init_5 : decode cX4_init 5 = .ok (.bipush 8, 2) := by decide +kernel
theorem dX4_init_7 : decode cX4_init 7 = .ok (.newarray .int, 2) := by decide +kernel
theorem dX4_init_9 : decode cX4_init 9 = .ok (.putfield 9, 3) := by decide +kernel
theorem dX4_init_12 : decode cX4_init 12 = .ok (.aload_n 0, 1) := by decide +kernel
theorem dX4_init_13 : decode cX4_init 13 = .ok (.bipush 9, 2) := by decide +kernel
theorem dX4_init_15 : decode cX4_init 15 = .ok (.newarray .int, 2) := by decide +kernel
theorem dX4_init_17 : decode cX4_init 17 = .ok (.putfield 15, 3) := by decide +kernel
theorem dX4_init_20 : decode cX4_init 20 = .ok (.aload_n 0, 1) := by decide +kernel
theorem dX4_init_21 : decode cX4_init 21 = .ok (.bipush 9, 2) := by decide +kernel
theorem dX4_init_23 : decode cX4_init 23 = .ok (.newarray .int, 2) := by decide +kernel
theorem dX4_init_25 : decode cX4_init 25 = .ok (.putfield 18, 3) := by decide +kernel
theorem dX4_init_28 : decode cX4_init 28 = .ok (.aload_n 0, 1) := by decide +kernel
theorem dX4_init_29 : decode cX4_init 29 = .ok (.bipush 8, 2) := by decide +kernel
theorem dX4_init_31 : decode cX4_init 31 = .ok (.newarray .int, 2) := by decide +kernel
theorem dX4_init_33 : decode cX4_init 33 = .ok (.putfield 21, 3) := by decide +kernel
theorem dX4_init_36 : decode cX4_init 36 = .ok (.aload_n 0, 1) := by decide +kernel
theorem dX4_init_37 : decode cX4_init 37 = .ok (.sipush 2304, 3) := by decide +kernel
theorem dX4_init_40 : decode cX4_init 40 = .ok (.newarray .int, 2) := by decide +kernel
theorem dX4_init_42 : decode cX4_init 42 = .ok (.putfield 24, 3) := by decide +kernel
theorem dX4_init_45 : decode cX4_init 45 = .ok (.aload_n 0, 1) := by decide +kernel
theorem dX4_init_46 : decode cX4_init 46 = .ok (.iconst 0, 1) := by decide +kernel
theorem dX4_init_47 : decode cX4_init 47 = .ok (.putfield 27, 3) := by decide +kernel
theorem dX4_init_50 : decode cX4_init 50 = .ok (.aload_n 0, 1) := by decide +kernel
theorem dX4_init_51 : decode cX4_init 51 = .ok (.iconst 0, 1) := by decide +kernel
theorem dX4_init_52 : decode cX4_init 52 = .ok (.putfield 31, 3) := by decide +kernel
theorem dX4_init_55 : decode cX4_init 55 = .ok (.return_, 1) := by decide +kernel
theorem dX4_way_0 : decode cX4_way 0 = .ok (.aload_n 0, 1) := by decide +kernel
theorem dX4_way_1 : decode cX4_way 1 = .ok (.iconst 1, 1) := by decide +kernel
theorem dX4_way_2 : decode cX4_way 2 = .ok (.aload_n 0, 1) := by decide +kernel
theorem dX4_way_3 : decode cX4_way 3 = .ok (.getfield 31, 3) := by decide +kernel
theorem dX4_way_6 : decode cX4_way 6 = .ok (.ishl, 1) := by decide +kernel
theorem dX4_way_7 : decode cX4_way 7 = .ok (.iconst 1, 1) := by decide +kernel
theorem dX4_way_8 : decode cX4_way 8 = .ok (.isub, 1) := by decide +kernel
theorem dX4_way_9 : decode cX4_way 9 = .ok (.bipush 8, 2) := by decide +kernel
theorem dX4_way_11 : decode cX4_way 11 = .ok (.invokevirtual 34, 3) := by decide +kernel
theorem dX4_way_14 : decode cX4_way 14 = .ok (.ireturn, 1) := by decide +kernel
theorem dX4_houseOn_0 : decode cX4_houseOn 0 = .ok (.iload_n 1, 1) := by decide +kernel
theorem dX4_houseOn_1 : decode cX4_houseOn 1 = .ok (.ifCond .lt 20, 3) := by decide +kernel
theorem dX4_houseOn_4 : decode cX4_houseOn 4 = .ok (.iload_n 1, 1) := by decide +kernel
theorem dX4_houseOn_5 : decode cX4_houseOn 5 = .ok (.aload_n 0, 1) := by decide +kernel
theorem dX4_houseOn_6 : decode cX4_houseOn 6 = .ok (.getfield 31, 3) := by decide +kernel
theorem dX4_houseOn_9 : decode cX4_houseOn 9 = .ok (.if_icmp .ge 12, 3) := by decide +kernel
theorem dX4_houseOn_12 : decode cX4_houseOn 12 = .ok (.iload_n 1, 1) := by decide +kernel
theorem dX4_houseOn_13 : decode cX4_houseOn 13 = .ok (.aload_n 0, 1) := by decide +kernel
theorem dX4_houseOn_14 : decode cX4_houseOn 14 = .ok (.getfield 21, 3) := by decide +kernel
theorem dX4_houseOn_17 : decode cX4_houseOn 17 = .ok (.arraylength, 1) := by decide +kernel
theorem dX4_houseOn_18 : decode cX4_houseOn 18 = .ok (.if_icmp .lt 8, 3) := by decide +kernel
theorem dX4_houseOn_21 : decode cX4_houseOn 21 = .ok (.ldc 38, 2) := by decide +kernel
theorem dX4_houseOn_23 : decode cX4_houseOn 23 = .ok (.goto 9, 3) := by decide +kernel
theorem dX4_houseOn_26 : decode cX4_houseOn 26 = .ok (.aload_n 0, 1) := by decide +kernel
theorem dX4_houseOn_27 : decode cX4_houseOn 27 = .ok (.getfield 21, 3) := by decide +kernel
theorem dX4_houseOn_30 : decode cX4_houseOn 30 = .ok (.iload_n 1, 1) := by decide +kernel
theorem dX4_houseOn_31 : decode cX4_houseOn 31 = .ok (.iaload, 1) := by decide +kernel
theorem dX4_houseOn_32 : decode cX4_houseOn 32 = .ok (.ireturn, 1) := by decide +kernel
theorem dX4_prepare_0 : decode cX4_prepare 0 = .ok (.iload_n 1, 1) := by decide +kernel
theorem dX4_prepare_1 : decode cX4_prepare 1 = .ok (.aload_n 0, 1) := by decide +kernel
theorem dX4_prepare_2 : decode cX4_prepare 2 = .ok (.getfield 27, 3) := by decide +kernel
theorem dX4_prepare_5 : decode cX4_prepare 5 = .ok (.if_icmp .ne 4, 3) := by decide +kernel
theorem dX4_prepare_8 : decode cX4_prepare 8 = .ok (.return_, 1) := by decide +kernel
theorem dX4_prepare_9 : decode cX4_prepare 9 = .ok (.aload_n 0, 1) := by decide +kernel
theorem dX4_prepare_10 : decode cX4_prepare 10 = .ok (.iload_n 1, 1) := by decide +kernel
theorem dX4_prepare_11 : decode cX4_prepare 11 = .ok (.putfield 27, 3) := by decide +kernel
theorem dX4_prepare_14 : decode cX4_prepare 14 = .ok (.aload_n 0, 1) := by decide +kernel
theorem dX4_prepare_15 : decode cX4_prepare 15 = .ok (.iload_n 1, 1) := by decide +kernel
theorem dX4_prepare_16 : decode cX4_prepare 16 = .ok (.aload_n 2, 1) := by decide +kernel
theorem dX4_prepare_17 : decode cX4_prepare 17 = .ok (.invokevirtual 39, 3) := by decide +kernel
theorem dX4_prepare_20 : decode cX4_prepare 20 = .ok (.iconst 0, 1) := by decide +kernel
theorem dX4_prepare_21 : decode cX4_prepare 21 = .ok (.istore_n 3, 1) := by decide +kernel
theorem dX4_prepare_22 : decode cX4_prepare 22 = .ok (.iload_n 3, 1) := by decide +kernel
theorem dX4_prepare_23 : decode cX4_prepare 23 = .ok (.iconst 1, 1) := by decide +kernel
theorem dX4_prepare_24 : decode cX4_prepare 24 = .ok (.aload_n 0, 1) := by decide +kernel
theorem dX4_prepare_25 : decode cX4_prepare 25 = .ok (.getfield 31, 3) := by decide +kernel
theorem dX4_prepare_28 : decode cX4_prepare 28 = .ok (.ishl, 1) := by decide +kernel
theorem dX4_prepare_29 : decode cX4_prepare 29 = .ok (.if_icmp .ge 50, 3) := by decide +kernel
theorem dX4_prepare_32 : decode cX4_prepare 32 = .ok (.aload_n 0, 1) := by decide +kernel
theorem dX4_prepare_33 : decode cX4_prepare 33 = .ok (.iload_n 3, 1) := by decide +kernel
theorem dX4_prepare_34 : decode cX4_prepare 34 = .ok (.bipush 8, 2) := by decide +kernel
theorem dX4_prepare_36 : decode cX4_prepare 36 = .ok (.invokevirtual 43, 3) := by decide +kernel
theorem dX4_prepare_39 : decode cX4_prepare 39 = .ok (.iconst 0, 1) := by decide +kernel
theorem dX4_prepare_40 : decode cX4_prepare 40 = .ok (.istore 4, 2) := by decide +kernel
theorem dX4_prepare_42 : decode cX4_prepare 42 = .ok (.iload 4, 2) := by decide +kernel
theorem dX4_prepare_44 : decode cX4_prepare 44 = .ok (.aload_n 0, 1) := by decide +kernel
theorem dX4_prepare_45 : decode cX4_prepare 45 = .ok (.getfield 31, 3) := by decide +kernel
theorem dX4_prepare_48 : decode cX4_prepare 48 = .ok (.if_icmp .ge 25, 3) := by decide +kernel
theorem dX4_prepare_51 : decode cX4_prepare 51 = .ok (.iload_n 3, 1) := by decide +kernel
theorem dX4_prepare_52 : decode cX4_prepare 52 = .ok (.iload 4, 2) := by decide +kernel
theorem dX4_prepare_54 : decode cX4_prepare 54 = .ok (.ishr, 1) := by decide +kernel
theorem dX4_prepare_55 : decode cX4_prepare 55 = .ok (.iconst 1, 1) := by decide +kernel
theorem dX4_prepare_56 : decode cX4_prepare 56 = .ok (.iand, 1) := by decide +kernel
theorem dX4_prepare_57 : decode cX4_prepare 57 = .ok (.ifCond .ne 10, 3) := by decide +kernel
theorem dX4_prepare_60 : decode cX4_prepare 60 = .ok (.aload_n 0, 1) := by decide +kernel
theorem dX4_prepare_61 : decode cX4_prepare 61 = .ok (.iload_n 3, 1) := by decide +kernel
theorem dX4_prepare_62 : decode cX4_prepare 62 = .ok (.iload 4, 2) := by decide +kernel
theorem dX4_prepare_64 : decode cX4_prepare 64 = .ok (.invokevirtual 43, 3) := by decide +kernel
theorem dX4_prepare_67 : decode cX4_prepare 67 = .ok (.iinc 4 1, 3) := by decide +kernel
theorem dX4_prepare_70 : decode cX4_prepare 70 = .ok (.goto (-28), 3) := by decide +kernel
theorem dX4_prepare_73 : decode cX4_prepare 73 = .ok (.iinc 3 1, 3) := by decide +kernel
theorem dX4_prepare_76 : decode cX4_prepare 76 = .ok (.goto (-54), 3) := by decide +kernel
theorem dX4_prepare_79 : decode cX4_prepare 79 = .ok (.aload_n 0, 1) := by decide +kernel
theorem dX4_prepare_80 : decode cX4_prepare 80 = .ok (.invokevirtual 47, 3) := by decide +kernel
theorem dX4_prepare_83 : decode cX4_prepare 83 = .ok (.return_, 1) := by decide +kernel
theorem dX4_gather_0 : decode cX4_gather 0 = .ok (.aload_n 0, 1) := by decide +kernel
theorem dX4_gather_1 : decode cX4_gather 1 = .ok (.iconst 0, 1) := by decide +kernel
theorem dX4_gather_2 : decode cX4_gather 2 = .ok (.putfield 31, 3) := by decide +kernel
theorem dX4_gather_5 : decode cX4_gather 5 = .ok (.iconst 0, 1) := by decide +kernel
theorem dX4_gather_6 : decode cX4_gather 6 = .ok (.istore_n 3, 1) := by decide +kernel
theorem dX4_gather_7 : decode cX4_gather 7 = .ok (.iload_n 3, 1) := by decide +kernel
theorem dX4_gather_8 : decode cX4_gather 8 = .ok (.bipush 24, 2) := by decide +kernel
theorem dX4_gather_10 : decode cX4_gather 10 = .ok (.if_icmp .ge 101, 3) := by decide +kernel
theorem dX4_gather_13 : decode cX4_gather 13 = .ok (.aload_n 0, 1) := by decide +kernel
theorem dX4_gather_14 : decode cX4_gather 14 = .ok (.getfield 31, 3) := by decide +kernel
theorem dX4_gather_17 : decode cX4_gather 17 = .ok (.aload_n 0, 1) := by decide +kernel
theorem dX4_gather_18 : decode cX4_gather 18 = .ok (.getfield 9, 3) := by decide +kernel
theorem dX4_gather_21 : decode cX4_gather 21 = .ok (.arraylength, 1) := by decide +kernel
theorem dX4_gather_22 : decode cX4_gather 22 = .ok (.if_icmp .ge 89, 3) := by decide +kernel
theorem dX4_gather_25 : decode cX4_gather 25 = .ok (.aload_n 0, 1) := by decide +kernel
theorem dX4_gather_26 : decode cX4_gather 26 = .ok (.getfield 31, 3) := by decide +kernel
theorem dX4_gather_29 : decode cX4_gather 29 = .ok (.bipush 8, 2) := by decide +kernel
theorem dX4_gather_31 : decode cX4_gather 31 = .ok (.if_icmp .ge 80, 3) := by decide +kernel
theorem dX4_gather_34 : decode cX4_gather 34 = .ok (.aload_n 2, 1) := by decide +kernel
theorem dX4_gather_35 : decode cX4_gather 35 = .ok (.iload_n 3, 1) := by decide +kernel
theorem dX4_gather_36 : decode cX4_gather 36 = .ok (.invokestatic 50, 3) := by decide +kernel
theorem dX4_gather_39 : decode cX4_gather 39 = .ok (.astore 4, 2) := by decide +kernel
theorem dX4_gather_41 : decode cX4_gather 41 = .ok (.aload 4, 2) := by decide +kernel
theorem dX4_gather_43 : decode cX4_gather 43 = .ok (.ifnull 62, 3) := by decide +kernel
theorem dX4_gather_46 : decode cX4_gather 46 = .ok (.iload_n 1, 1) := by decide +kernel
theorem dX4_gather_47 : decode cX4_gather 47 = .ok (.iload_n 3, 1) := by decide +kernel
theorem dX4_gather_48 : decode cX4_gather 48 = .ok (.ishr, 1) := by decide +kernel
theorem dX4_gather_49 : decode cX4_gather 49 = .ok (.iconst 1, 1) := by decide +kernel
theorem dX4_gather_50 : decode cX4_gather 50 = .ok (.iand, 1) := by decide +kernel
theorem dX4_gather_51 : decode cX4_gather 51 = .ok (.ifCond .ne 6, 3) := by decide +kernel
theorem dX4_gather_54 : decode cX4_gather 54 = .ok (.goto 51, 3) := by decide +kernel
theorem dX4_gather_57 : decode cX4_gather 57 = .ok (.aload_n 0, 1) := by decide +kernel
theorem dX4_gather_58 : decode cX4_gather 58 = .ok (.getfield 9, 3) := by decide +kernel
theorem dX4_gather_61 : decode cX4_gather 61 = .ok (.aload_n 0, 1) := by decide +kernel
theorem dX4_gather_62 : decode cX4_gather 62 = .ok (.getfield 31, 3) := by decide +kernel
theorem dX4_gather_65 : decode cX4_gather 65 = .ok (.iload_n 3, 1) := by decide +kernel
theorem dX4_gather_66 : decode cX4_gather 66 = .ok (.iastore, 1) := by decide +kernel
theorem dX4_gather_67 : decode cX4_gather 67 = .ok (.aload_n 0, 1) := by decide +kernel
theorem dX4_gather_68 : decode cX4_gather 68 = .ok (.getfield 15, 3) := by decide +kernel
theorem dX4_gather_71 : decode cX4_gather 71 = .ok (.aload_n 0, 1) := by decide +kernel
theorem dX4_gather_72 : decode cX4_gather 72 = .ok (.getfield 31, 3) := by decide +kernel
theorem dX4_gather_75 : decode cX4_gather 75 = .ok (.aload 4, 2) := by decide +kernel
theorem dX4_gather_77 : decode cX4_gather 77 = .ok (.getfield 54, 3) := by decide +kernel
theorem dX4_gather_80 : decode cX4_gather 80 = .ok (.iastore, 1) := by decide +kernel
theorem dX4_gather_81 : decode cX4_gather 81 = .ok (.aload_n 0, 1) := by decide +kernel
theorem dX4_gather_82 : decode cX4_gather 82 = .ok (.getfield 18, 3) := by decide +kernel
theorem dX4_gather_85 : decode cX4_gather 85 = .ok (.aload_n 0, 1) := by decide +kernel
theorem dX4_gather_86 : decode cX4_gather 86 = .ok (.getfield 31, 3) := by decide +kernel
theorem dX4_gather_89 : decode cX4_gather 89 = .ok (.aload 4, 2) := by decide +kernel
theorem dX4_gather_91 : decode cX4_gather 91 = .ok (.getfield 59, 3) := by decide +kernel
theorem dX4_gather_94 : decode cX4_gather 94 = .ok (.iastore, 1) := by decide +kernel
theorem dX4_gather_95 : decode cX4_gather 95 = .ok (.aload_n 0, 1) := by decide +kernel
theorem dX4_gather_96 : decode cX4_gather 96 = .ok (.dup, 1) := by decide +kernel
theorem dX4_gather_97 : decode cX4_gather 97 = .ok (.getfield 31, 3) := by decide +kernel
theorem dX4_gather_100 : decode cX4_gather 100 = .ok (.iconst 1, 1) := by decide +kernel
theorem dX4_gather_101 : decode cX4_gather 101 = .ok (.iadd, 1) := by decide +kernel
theorem dX4_gather_102 : decode cX4_gather 102 = .ok (.putfield 31, 3) := by decide +kernel
theorem dX4_gather_105 : decode cX4_gather 105 = .ok (.iinc 3 1, 3) := by decide +kernel
theorem dX4_gather_108 : decode cX4_gather 108 = .ok (.goto (-101), 3) := by decide +kernel
theorem dX4_gather_111 : decode cX4_gather 111 = .ok (.aload_n 0, 1) := by decide +kernel
theorem dX4_gather_112 : decode cX4_gather 112 = .ok (.getfield 15, 3) := by decide +kernel
theorem dX4_gather_115 : decode cX4_gather 115 = .ok (.bipush 8, 2) := by decide +kernel
theorem dX4_gather_117 : decode cX4_gather 117 = .ok (.bipush 25, 2) := by decide +kernel
theorem dX4_gather_119 : decode cX4_gather 119 = .ok (.iastore, 1) := by decide +kernel
theorem dX4_gather_120 : decode cX4_gather 120 = .ok (.aload_n 0, 1) := by decide +kernel
theorem dX4_gather_121 : decode cX4_gather 121 = .ok (.getfield 18, 3) := by decide +kernel
theorem dX4_gather_124 : decode cX4_gather 124 = .ok (.bipush 8, 2) := by decide +kernel
theorem dX4_gather_126 : decode cX4_gather 126 = .ok (.bipush 25, 2) := by decide +kernel
theorem dX4_gather_128 : decode cX4_gather 128 = .ok (.iastore, 1) := by decide +kernel
theorem dX4_gather_129 : decode cX4_gather 129 = .ok (.return_, 1) := by decide +kernel
theorem dX4_measure_0 : decode cX4_measure 0 = .ok (.iload_n 1, 1) := by decide +kernel
theorem dX4_measure_1 : decode cX4_measure 1 = .ok (.bipush 9, 2) := by decide +kernel
theorem dX4_measure_3 : decode cX4_measure 3 = .ok (.imul, 1) := by decide +kernel
theorem dX4_measure_4 : decode cX4_measure 4 = .ok (.iload_n 2, 1) := by decide +kernel
theorem dX4_measure_5 : decode cX4_measure 5 = .ok (.iadd, 1) := by decide +kernel
theorem dX4_measure_6 : decode cX4_measure 6 = .ok (.istore_n 3, 1) := by decide +kernel
theorem dX4_measure_7 : decode cX4_measure 7 = .ok (.iload_n 3, 1) := by decide +kernel
theorem dX4_measure_8 : decode cX4_measure 8 = .ok (.ifCond .lt 12, 3) := by decide +kernel
theorem dX4_measure_11 : decode cX4_measure 11 = .ok (.iload_n 3, 1) := by decide +kernel
theorem dX4_measure_12 : decode cX4_measure 12 = .ok (.aload_n 0, 1) := by decide +kernel
theorem dX4_measure_13 : decode cX4_measure 13 = .ok (.getfield 24, 3) := by decide +kernel
theorem dX4_measure_16 : decode cX4_measure 16 = .ok (.arraylength, 1) := by decide +kernel
theorem dX4_measure_17 : decode cX4_measure 17 = .ok (.if_icmp .lt 4, 3) := by decide +kernel
theorem dX4_measure_20 : decode cX4_measure 20 = .ok (.return_, 1) := by decide +kernel
theorem dX4_measure_21 : decode cX4_measure 21 = .ok (.iload_n 1, 1) := by decide +kernel
theorem dX4_measure_22 : decode cX4_measure 22 = .ok (.ifCond .ne 13, 3) := by decide +kernel
theorem dX4_measure_25 : decode cX4_measure 25 = .ok (.aload_n 0, 1) := by decide +kernel
theorem dX4_measure_26 : decode cX4_measure 26 = .ok (.iload_n 2, 1) := by decide +kernel
theorem dX4_measure_27 : decode cX4_measure 27 = .ok (.bipush 8, 2) := by decide +kernel
theorem dX4_measure_29 : decode cX4_measure 29 = .ok (.invokevirtual 62, 3) := by decide +kernel
theorem dX4_measure_32 : decode cX4_measure 32 = .ok (.goto 5, 3) := by decide +kernel
theorem dX4_measure_35 : decode cX4_measure 35 = .ok (.ldc 65, 2) := by decide +kernel
theorem dX4_measure_37 : decode cX4_measure 37 = .ok (.istore 4, 2) := by decide +kernel
theorem dX4_measure_39 : decode cX4_measure 39 = .ok (.iconst 0, 1) := by decide +kernel
theorem dX4_measure_40 : decode cX4_measure 40 = .ok (.istore 5, 2) := by decide +kernel
theorem dX4_measure_42 : decode cX4_measure 42 = .ok (.iload 5, 2) := by decide +kernel
theorem dX4_measure_44 : decode cX4_measure 44 = .ok (.aload_n 0, 1) := by decide +kernel
theorem dX4_measure_45 : decode cX4_measure 45 = .ok (.getfield 31, 3) := by decide +kernel
theorem dX4_measure_48 : decode cX4_measure 48 = .ok (.if_icmp .ge 34, 3) := by decide +kernel
theorem dX4_measure_51 : decode cX4_measure 51 = .ok (.iload_n 1, 1) := by decide +kernel
theorem dX4_measure_52 : decode cX4_measure 52 = .ok (.iload 5, 2) := by decide +kernel
theorem dX4_measure_54 : decode cX4_measure 54 = .ok (.ishr, 1) := by decide +kernel
theorem dX4_measure_55 : decode cX4_measure 55 = .ok (.iconst 1, 1) := by decide +kernel
theorem dX4_measure_56 : decode cX4_measure 56 = .ok (.iand, 1) := by decide +kernel
theorem dX4_measure_57 : decode cX4_measure 57 = .ok (.iconst 1, 1) := by decide +kernel
theorem dX4_measure_58 : decode cX4_measure 58 = .ok (.if_icmp .ne 18, 3) := by decide +kernel
theorem dX4_measure_61 : decode cX4_measure 61 = .ok (.iload 4, 2) := by decide +kernel
theorem dX4_measure_63 : decode cX4_measure 63 = .ok (.aload_n 0, 1) := by decide +kernel
theorem dX4_measure_64 : decode cX4_measure 64 = .ok (.iload_n 1, 1) := by decide +kernel
theorem dX4_measure_65 : decode cX4_measure 65 = .ok (.iload_n 2, 1) := by decide +kernel
theorem dX4_measure_66 : decode cX4_measure 66 = .ok (.iload 5, 2) := by decide +kernel
theorem dX4_measure_68 : decode cX4_measure 68 = .ok (.invokevirtual 66, 3) := by decide +kernel
theorem dX4_measure_71 : decode cX4_measure 71 = .ok (.invokestatic 70, 3) := by decide +kernel
theorem dX4_measure_74 : decode cX4_measure 74 = .ok (.istore 4, 2) := by decide +kernel
theorem dX4_measure_76 : decode cX4_measure 76 = .ok (.iinc 5 1, 3) := by decide +kernel
theorem dX4_measure_79 : decode cX4_measure 79 = .ok (.goto (-37), 3) := by decide +kernel
theorem dX4_measure_82 : decode cX4_measure 82 = .ok (.aload_n 0, 1) := by decide +kernel
theorem dX4_measure_83 : decode cX4_measure 83 = .ok (.getfield 24, 3) := by decide +kernel
theorem dX4_measure_86 : decode cX4_measure 86 = .ok (.iload_n 3, 1) := by decide +kernel
theorem dX4_measure_87 : decode cX4_measure 87 = .ok (.iload 4, 2) := by decide +kernel
theorem dX4_measure_89 : decode cX4_measure 89 = .ok (.iastore, 1) := by decide +kernel
theorem dX4_measure_90 : decode cX4_measure 90 = .ok (.return_, 1) := by decide +kernel
theorem dX4_arrange_0 : decode cX4_arrange 0 = .ok (.iconst 1, 1) := by decide +kernel
theorem dX4_arrange_1 : decode cX4_arrange 1 = .ok (.aload_n 0, 1) := by decide +kernel
theorem dX4_arrange_2 : decode cX4_arrange 2 = .ok (.getfield 31, 3) := by decide +kernel
theorem dX4_arrange_5 : decode cX4_arrange 5 = .ok (.ishl, 1) := by decide +kernel
theorem dX4_arrange_6 : decode cX4_arrange 6 = .ok (.iconst 1, 1) := by decide +kernel
theorem dX4_arrange_7 : decode cX4_arrange 7 = .ok (.isub, 1) := by decide +kernel
theorem dX4_arrange_8 : decode cX4_arrange 8 = .ok (.istore_n 1, 1) := by decide +kernel
theorem dX4_arrange_9 : decode cX4_arrange 9 = .ok (.bipush 8, 2) := by decide +kernel
theorem dX4_arrange_11 : decode cX4_arrange 11 = .ok (.istore_n 2, 1) := by decide +kernel
theorem dX4_arrange_12 : decode cX4_arrange 12 = .ok (.iconst 0, 1) := by decide +kernel
theorem dX4_arrange_13 : decode cX4_arrange 13 = .ok (.istore_n 3, 1) := by decide +kernel
theorem dX4_arrange_14 : decode cX4_arrange 14 = .ok (.iload_n 3, 1) := by decide +kernel
theorem dX4_arrange_15 : decode cX4_arrange 15 = .ok (.aload_n 0, 1) := by decide +kernel
theorem dX4_arrange_16 : decode cX4_arrange 16 = .ok (.getfield 31, 3) := by decide +kernel
theorem dX4_arrange_19 : decode cX4_arrange 19 = .ok (.if_icmp .ge 71, 3) := by decide +kernel
theorem dX4_arrange_22 : decode cX4_arrange 22 = .ok (.iload_n 3, 1) := by decide +kernel
theorem dX4_arrange_23 : decode cX4_arrange 23 = .ok (.aload_n 0, 1) := by decide +kernel
theorem dX4_arrange_24 : decode cX4_arrange 24 = .ok (.getfield 21, 3) := by decide +kernel
theorem dX4_arrange_27 : decode cX4_arrange 27 = .ok (.arraylength, 1) := by decide +kernel
theorem dX4_arrange_28 : decode cX4_arrange 28 = .ok (.if_icmp .ge 62, 3) := by decide +kernel
theorem dX4_arrange_31 : decode cX4_arrange 31 = .ok (.aload_n 0, 1) := by decide +kernel
theorem dX4_arrange_32 : decode cX4_arrange 32 = .ok (.iload_n 1, 1) := by decide +kernel
theorem dX4_arrange_33 : decode cX4_arrange 33 = .ok (.iload_n 2, 1) := by decide +kernel
theorem dX4_arrange_34 : decode cX4_arrange 34 = .ok (.invokevirtual 75, 3) := by decide +kernel
theorem dX4_arrange_37 : decode cX4_arrange 37 = .ok (.istore 4, 2) := by decide +kernel
theorem dX4_arrange_39 : decode cX4_arrange 39 = .ok (.aload_n 0, 1) := by decide +kernel
theorem dX4_arrange_40 : decode cX4_arrange 40 = .ok (.getfield 21, 3) := by decide +kernel
theorem dX4_arrange_43 : decode cX4_arrange 43 = .ok (.iload_n 3, 1) := by decide +kernel
theorem dX4_arrange_44 : decode cX4_arrange 44 = .ok (.iload 4, 2) := by decide +kernel
theorem dX4_arrange_46 : decode cX4_arrange 46 = .ok (.ifCond .lt 13, 3) := by decide +kernel
theorem dX4_arrange_49 : decode cX4_arrange 49 = .ok (.iload 4, 2) := by decide +kernel
theorem dX4_arrange_51 : decode cX4_arrange 51 = .ok (.aload_n 0, 1) := by decide +kernel
theorem dX4_arrange_52 : decode cX4_arrange 52 = .ok (.getfield 9, 3) := by decide +kernel
theorem dX4_arrange_55 : decode cX4_arrange 55 = .ok (.arraylength, 1) := by decide +kernel
theorem dX4_arrange_56 : decode cX4_arrange 56 = .ok (.if_icmp .lt 8, 3) := by decide +kernel
theorem dX4_arrange_59 : decode cX4_arrange 59 = .ok (.ldc 38, 2) := by decide +kernel
theorem dX4_arrange_61 : decode cX4_arrange 61 = .ok (.goto 10, 3) := by decide +kernel
theorem dX4_arrange_64 : decode cX4_arrange 64 = .ok (.aload_n 0, 1) := by decide +kernel
theorem dX4_arrange_65 : decode cX4_arrange 65 = .ok (.getfield 9, 3) := by decide +kernel
theorem dX4_arrange_68 : decode cX4_arrange 68 = .ok (.iload 4, 2) := by decide +kernel
theorem dX4_arrange_70 : decode cX4_arrange 70 = .ok (.iaload, 1) := by decide +kernel
theorem dX4_arrange_71 : decode cX4_arrange 71 = .ok (.iastore, 1) := by decide +kernel
theorem dX4_arrange_72 : decode cX4_arrange 72 = .ok (.iload_n 1, 1) := by decide +kernel
theorem dX4_arrange_73 : decode cX4_arrange 73 = .ok (.iconst 1, 1) := by decide +kernel
theorem dX4_arrange_74 : decode cX4_arrange 74 = .ok (.iload 4, 2) := by decide +kernel
theorem dX4_arrange_76 : decode cX4_arrange 76 = .ok (.ishl, 1) := by decide +kernel
theorem dX4_arrange_77 : decode cX4_arrange 77 = .ok (.iconst (-1), 1) := by decide +kernel
theorem dX4_arrange_78 : decode cX4_arrange 78 = .ok (.ixor, 1) := by decide +kernel
theorem dX4_arrange_79 : decode cX4_arrange 79 = .ok (.iand, 1) := by decide +kernel
theorem dX4_arrange_80 : decode cX4_arrange 80 = .ok (.istore_n 1, 1) := by decide +kernel
theorem dX4_arrange_81 : decode cX4_arrange 81 = .ok (.iload 4, 2) := by decide +kernel
theorem dX4_arrange_83 : decode cX4_arrange 83 = .ok (.istore_n 2, 1) := by decide +kernel
theorem dX4_arrange_84 : decode cX4_arrange 84 = .ok (.iinc 3 1, 3) := by decide +kernel
theorem dX4_arrange_87 : decode cX4_arrange 87 = .ok (.goto (-73), 3) := by decide +kernel
theorem dX4_arrange_90 : decode cX4_arrange 90 = .ok (.return_, 1) := by decide +kernel
theorem dX4_firstNext_0 : decode cX4_firstNext 0 = .ok (.iconst 0, 1) := by decide +kernel
theorem dX4_firstNext_1 : decode cX4_firstNext 1 = .ok (.istore_n 3, 1) := by decide +kernel
theorem dX4_firstNext_2 : decode cX4_firstNext 2 = .ok (.iload_n 3, 1) := by decide +kernel
theorem dX4_firstNext_3 : decode cX4_firstNext 3 = .ok (.aload_n 0, 1) := by decide +kernel
theorem dX4_firstNext_4 : decode cX4_firstNext 4 = .ok (.getfield 31, 3) := by decide +kernel
theorem dX4_firstNext_7 : decode cX4_firstNext 7 = .ok (.if_icmp .ge 36, 3) := by decide +kernel
theorem dX4_firstNext_10 : decode cX4_firstNext 10 = .ok (.iload_n 1, 1) := by decide +kernel
theorem dX4_firstNext_11 : decode cX4_firstNext 11 = .ok (.iload_n 3, 1) := by decide +kernel
theorem dX4_firstNext_12 : decode cX4_firstNext 12 = .ok (.ishr, 1) := by decide +kernel
theorem dX4_firstNext_13 : decode cX4_firstNext 13 = .ok (.iconst 1, 1) := by decide +kernel
theorem dX4_firstNext_14 : decode cX4_firstNext 14 = .ok (.iand, 1) := by decide +kernel
theorem dX4_firstNext_15 : decode cX4_firstNext 15 = .ok (.iconst 1, 1) := by decide +kernel
theorem dX4_firstNext_16 : decode cX4_firstNext 16 = .ok (.if_icmp .ne 21, 3) := by decide +kernel
theorem dX4_firstNext_19 : decode cX4_firstNext 19 = .ok (.aload_n 0, 1) := by decide +kernel
theorem dX4_firstNext_20 : decode cX4_firstNext 20 = .ok (.iload_n 1, 1) := by decide +kernel
theorem dX4_firstNext_21 : decode cX4_firstNext 21 = .ok (.iload_n 2, 1) := by decide +kernel
theorem dX4_firstNext_22 : decode cX4_firstNext 22 = .ok (.iload_n 3, 1) := by decide +kernel
theorem dX4_firstNext_23 : decode cX4_firstNext 23 = .ok (.invokevirtual 66, 3) := by decide +kernel
theorem dX4_firstNext_26 : decode cX4_firstNext 26 = .ok (.aload_n 0, 1) := by decide +kernel
theorem dX4_firstNext_27 : decode cX4_firstNext 27 = .ok (.iload_n 1, 1) := by decide +kernel
theorem dX4_firstNext_28 : decode cX4_firstNext 28 = .ok (.iload_n 2, 1) := by decide +kernel
theorem dX4_firstNext_29 : decode cX4_firstNext 29 = .ok (.invokevirtual 34, 3) := by decide +kernel
theorem dX4_firstNext_32 : decode cX4_firstNext 32 = .ok (.if_icmp .ne 5, 3) := by decide +kernel
theorem dX4_firstNext_35 : decode cX4_firstNext 35 = .ok (.iload_n 3, 1) := by decide +kernel
theorem dX4_firstNext_36 : decode cX4_firstNext 36 = .ok (.ireturn, 1) := by decide +kernel
theorem dX4_firstNext_37 : decode cX4_firstNext 37 = .ok (.iinc 3 1, 3) := by decide +kernel
theorem dX4_firstNext_40 : decode cX4_firstNext 40 = .ok (.goto (-38), 3) := by decide +kernel
theorem dX4_firstNext_43 : decode cX4_firstNext 43 = .ok (.iconst 0, 1) := by decide +kernel
theorem dX4_firstNext_44 : decode cX4_firstNext 44 = .ok (.ireturn, 1) := by decide +kernel
theorem dX4_wayBy_0 : decode cX4_wayBy 0 = .ok (.aload_n 0, 1) := by decide +kernel
theorem dX4_wayBy_1 : decode cX4_wayBy 1 = .ok (.iload_n 2, 1) := by decide +kernel
theorem dX4_wayBy_2 : decode cX4_wayBy 2 = .ok (.iload_n 3, 1) := by decide +kernel
theorem dX4_wayBy_3 : decode cX4_wayBy 3 = .ok (.invokevirtual 62, 3) := by decide +kernel
theorem dX4_wayBy_6 : decode cX4_wayBy 6 = .ok (.aload_n 0, 1) := by decide +kernel
theorem dX4_wayBy_7 : decode cX4_wayBy 7 = .ok (.iload_n 1, 1) := by decide +kernel
theorem dX4_wayBy_8 : decode cX4_wayBy 8 = .ok (.iconst 1, 1) := by decide +kernel
theorem dX4_wayBy_9 : decode cX4_wayBy 9 = .ok (.iload_n 3, 1) := by decide +kernel
theorem dX4_wayBy_10 : decode cX4_wayBy 10 = .ok (.ishl, 1) := by decide +kernel
theorem dX4_wayBy_11 : decode cX4_wayBy 11 = .ok (.iconst (-1), 1) := by decide +kernel
theorem dX4_wayBy_12 : decode cX4_wayBy 12 = .ok (.ixor, 1) := by decide +kernel
theorem dX4_wayBy_13 : decode cX4_wayBy 13 = .ok (.iand, 1) := by decide +kernel
theorem dX4_wayBy_14 : decode cX4_wayBy 14 = .ok (.iload_n 3, 1) := by decide +kernel
theorem dX4_wayBy_15 : decode cX4_wayBy 15 = .ok (.invokevirtual 34, 3) := by decide +kernel
theorem dX4_wayBy_18 : decode cX4_wayBy 18 = .ok (.iadd, 1) := by decide +kernel
theorem dX4_wayBy_19 : decode cX4_wayBy 19 = .ok (.ireturn, 1) := by decide +kernel
theorem dX4_leastAt_0 : decode cX4_leastAt 0 = .ok (.iload_n 1, 1) := by decide +kernel
theorem dX4_leastAt_1 : decode cX4_leastAt 1 = .ok (.bipush 9, 2) := by decide +kernel
theorem dX4_leastAt_3 : decode cX4_leastAt 3 = .ok (.imul, 1) := by decide +kernel
theorem dX4_leastAt_4 : decode cX4_leastAt 4 = .ok (.iload_n 2, 1) := by decide +kernel
theorem dX4_leastAt_5 : decode cX4_leastAt 5 = .ok (.iadd, 1) := by decide +kernel
theorem dX4_leastAt_6 : decode cX4_leastAt 6 = .ok (.istore_n 3, 1) := by decide +kernel
theorem dX4_leastAt_7 : decode cX4_leastAt 7 = .ok (.iload_n 3, 1) := by decide +kernel
theorem dX4_leastAt_8 : decode cX4_leastAt 8 = .ok (.ifCond .lt 12, 3) := by decide +kernel
theorem dX4_leastAt_11 : decode cX4_leastAt 11 = .ok (.iload_n 3, 1) := by decide +kernel
theorem dX4_leastAt_12 : decode cX4_leastAt 12 = .ok (.aload_n 0, 1) := by decide +kernel
theorem dX4_leastAt_13 : decode cX4_leastAt 13 = .ok (.getfield 24, 3) := by decide +kernel
theorem dX4_leastAt_16 : decode cX4_leastAt 16 = .ok (.arraylength, 1) := by decide +kernel
theorem dX4_leastAt_17 : decode cX4_leastAt 17 = .ok (.if_icmp .lt 8, 3) := by decide +kernel
theorem dX4_leastAt_20 : decode cX4_leastAt 20 = .ok (.ldc 65, 2) := by decide +kernel
theorem dX4_leastAt_22 : decode cX4_leastAt 22 = .ok (.goto 9, 3) := by decide +kernel
theorem dX4_leastAt_25 : decode cX4_leastAt 25 = .ok (.aload_n 0, 1) := by decide +kernel
theorem dX4_leastAt_26 : decode cX4_leastAt 26 = .ok (.getfield 24, 3) := by decide +kernel
theorem dX4_leastAt_29 : decode cX4_leastAt 29 = .ok (.iload_n 3, 1) := by decide +kernel
theorem dX4_leastAt_30 : decode cX4_leastAt 30 = .ok (.iaload, 1) := by decide +kernel
theorem dX4_leastAt_31 : decode cX4_leastAt 31 = .ok (.ireturn, 1) := by decide +kernel
theorem dX4_between_0 : decode cX4_between 0 = .ok (.iload_n 1, 1) := by decide +kernel
theorem dX4_between_1 : decode cX4_between 1 = .ok (.iconst 0, 1) := by decide +kernel
theorem dX4_between_2 : decode cX4_between 2 = .ok (.bipush 8, 2) := by decide +kernel
theorem dX4_between_4 : decode cX4_between 4 = .ok (.invokestatic 78, 3) := by decide +kernel
theorem dX4_between_7 : decode cX4_between 7 = .ok (.ifCond .ne 13, 3) := by decide +kernel
theorem dX4_between_10 : decode cX4_between 10 = .ok (.iload_n 2, 1) := by decide +kernel
theorem dX4_between_11 : decode cX4_between 11 = .ok (.iconst 0, 1) := by decide +kernel
theorem dX4_between_12 : decode cX4_between 12 = .ok (.bipush 8, 2) := by decide +kernel
theorem dX4_between_14 : decode cX4_between 14 = .ok (.invokestatic 78, 3) := by decide +kernel
theorem dX4_between_17 : decode cX4_between 17 = .ok (.ifCond .eq 6, 3) := by decide +kernel
theorem dX4_between_20 : decode cX4_between 20 = .ok (.ldc 65, 2) := by decide +kernel
theorem dX4_between_22 : decode cX4_between 22 = .ok (.ireturn, 1) := by decide +kernel
theorem dX4_between_23 : decode cX4_between 23 = .ok (.aload_n 0, 1) := by decide +kernel
theorem dX4_between_24 : decode cX4_between 24 = .ok (.getfield 15, 3) := by decide +kernel
theorem dX4_between_27 : decode cX4_between 27 = .ok (.iload_n 1, 1) := by decide +kernel
theorem dX4_between_28 : decode cX4_between 28 = .ok (.iaload, 1) := by decide +kernel
theorem dX4_between_29 : decode cX4_between 29 = .ok (.aload_n 0, 1) := by decide +kernel
theorem dX4_between_30 : decode cX4_between 30 = .ok (.getfield 15, 3) := by decide +kernel
theorem dX4_between_33 : decode cX4_between 33 = .ok (.iload_n 2, 1) := by decide +kernel
theorem dX4_between_34 : decode cX4_between 34 = .ok (.iaload, 1) := by decide +kernel
theorem dX4_between_35 : decode cX4_between 35 = .ok (.isub, 1) := by decide +kernel
theorem dX4_between_36 : decode cX4_between 36 = .ok (.invokestatic 82, 3) := by decide +kernel
theorem dX4_between_39 : decode cX4_between 39 = .ok (.aload_n 0, 1) := by decide +kernel
theorem dX4_between_40 : decode cX4_between 40 = .ok (.getfield 18, 3) := by decide +kernel
theorem dX4_between_43 : decode cX4_between 43 = .ok (.iload_n 1, 1) := by decide +kernel
theorem dX4_between_44 : decode cX4_between 44 = .ok (.iaload, 1) := by decide +kernel
theorem dX4_between_45 : decode cX4_between 45 = .ok (.aload_n 0, 1) := by decide +kernel
theorem dX4_between_46 : decode cX4_between 46 = .ok (.getfield 18, 3) := by decide +kernel
theorem dX4_between_49 : decode cX4_between 49 = .ok (.iload_n 2, 1) := by decide +kernel
theorem dX4_between_50 : decode cX4_between 50 = .ok (.iaload, 1) := by decide +kernel
theorem dX4_between_51 : decode cX4_between 51 = .ok (.isub, 1) := by decide +kernel
theorem dX4_between_52 : decode cX4_between 52 = .ok (.invokestatic 82, 3) := by decide +kernel
theorem dX4_between_55 : decode cX4_between 55 = .ok (.iadd, 1) := by decide +kernel
theorem dX4_between_56 : decode cX4_between 56 = .ok (.ireturn, 1) := by decide +kernel
