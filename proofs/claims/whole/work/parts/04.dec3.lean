theorem dX5_init_0 : decode cX5_init 0 = .ok (.aload_n 0, 1) := by decide +kernel
theorem dX5_init_1 : decode cX5_init 1 = .ok (.invokespecial 1, 3) := by decide +kernel
theorem dX5_init_4 : decode cX5_init 4 = .ok (.aload_n 0, 1) := by decide +kernel
theorem dX5_init_5 : decode cX5_init 5 = .ok (.bipush 24, 2) := by decide +kernel
theorem dX5_init_7 : decode cX5_init 7 = .ok (.anewarray 9, 3) := by decide +kernel
theorem dX5_init_10 : decode cX5_init 10 = .ok (.putfield 11, 3) := by decide +kernel
theorem dX5_init_13 : decode cX5_init 13 = .ok (.aload_n 0, 1) := by decide +kernel
theorem dX5_init_14 : decode cX5_init 14 = .ok (.new 15, 3) := by decide +kernel
theorem dX5_init_17 : decode cX5_init 17 = .ok (.dup, 1) := by decide +kernel
theorem dX5_init_18 : decode cX5_init 18 = .ok (.invokespecial 17, 3) := by decide +kernel
theorem dX5_init_21 : decode cX5_init 21 = .ok (.putfield 18, 3) := by decide +kernel
theorem dX5_init_24 : decode cX5_init 24 = .ok (.aload_n 0, 1) := by decide +kernel
theorem dX5_init_25 : decode cX5_init 25 = .ok (.new 22, 3) := by decide +kernel
theorem dX5_init_28 : decode cX5_init 28 = .ok (.dup, 1) := by decide +kernel
theorem dX5_init_29 : decode cX5_init 29 = .ok (.invokespecial 24, 3) := by decide +kernel
theorem dX5_init_32 : decode cX5_init 32 = .ok (.putfield 25, 3) := by decide +kernel
theorem dX5_init_35 : decode cX5_init 35 = .ok (.aload_n 0, 1) := by decide +kernel
theorem dX5_init_36 : decode cX5_init 36 = .ok (.new 29, 3) := by decide +kernel
theorem dX5_init_39 : decode cX5_init 39 = .ok (.dup, 1) := by decide +kernel
theorem dX5_init_40 : decode cX5_init 40 = .ok (.invokespecial 31, 3) := by decide +kernel
theorem dX5_init_43 : decode cX5_init 43 = .ok (.putfield 32, 3) := by decide +kernel
theorem dX5_init_46 : decode cX5_init 46 = .ok (.aload_n 0, 1) := by decide +kernel
theorem dX5_init_47 : decode cX5_init 47 = .ok (.iconst 0, 1) := by decide +kernel
theorem dX5_init_48 : decode cX5_init 48 = .ok (.putfield 36, 3) := by decide +kernel
theorem dX5_init_51 : decode cX5_init 51 = .ok (.aload_n 0, 1) := by decide +kernel
theorem dX5_init_52 : decode cX5_init 52 = .ok (.iconst 0, 1) := by decide +kernel
theorem dX5_init_53 : decode cX5_init 53 = .ok (.putfield 40, 3) := by decide +kernel
theorem dX5_init_56 : decode cX5_init 56 = .ok (.aload_n 0, 1) := by decide +kernel
theorem dX5_init_57 : decode cX5_init 57 = .ok (.iconst 3, 1) := by decide +kernel
theorem dX5_init_58 : decode cX5_init 58 = .ok (.putfield 43, 3) := by decide +kernel
theorem dX5_init_61 : decode cX5_init 61 = .ok (.aload_n 0, 1) := by decide +kernel
theorem dX5_init_62 : decode cX5_init 62 = .ok (.bipush 20, 2) := by decide +kernel
theorem dX5_init_64 : decode cX5_init 64 = .ok (.putfield 46, 3) := by decide +kernel
theorem dX5_init_67 : decode cX5_init 67 = .ok (.aload_n 0, 1) := by decide +kernel
theorem dX5_init_68 : decode cX5_init 68 = .ok (.sipush 3000, 3) := by decide +kernel
theorem dX5_init_71 : decode cX5_init 71 = .ok (.putfield 49, 3) := by decide +kernel
theorem dX5_init_74 : decode cX5_init 74 = .ok (.aload_n 0, 1) := by decide +kernel
theorem dX5_init_75 : decode cX5_init 75 = .ok (.bipush 100, 2) := by decide +kernel
theorem dX5_init_77 : decode cX5_init 77 = .ok (.putfield 52, 3) := by decide +kernel
theorem dX5_init_80 : decode cX5_init 80 = .ok (.aload_n 0, 1) := by decide +kernel
theorem dX5_init_81 : decode cX5_init 81 = .ok (.iconst 0, 1) := by decide +kernel
theorem dX5_init_82 : decode cX5_init 82 = .ok (.putfield 55, 3) := by decide +kernel
theorem dX5_init_85 : decode cX5_init 85 = .ok (.aload_n 0, 1) := by decide +kernel
theorem dX5_init_86 : decode cX5_init 86 = .ok (.lconst 0, 1) := by decide +kernel
theorem dX5_init_87 : decode cX5_init 87 = .ok (.putfield 58, 3) := by decide +kernel
theorem dX5_init_90 : decode cX5_init 90 = .ok (.aload_n 0, 1) := by decide +kernel
theorem dX5_init_91 : decode cX5_init 91 = .ok (.lconst 0, 1) := by decide +kernel
theorem dX5_init_92 : decode cX5_init 92 = .ok (.putfield 62, 3) := by decide +kernel
theorem dX5_init_95 : decode cX5_init 95 = .ok (.aload_n 0, 1) := by decide +kernel
theorem dX5_init_96 : decode cX5_init 96 = .ok (.lconst 0, 1) := by decide +kernel
theorem dX5_init_97 : decode cX5_init 97 = .ok (.putfield 65, 3) := by decide +kernel
theorem dX5_init_100 : decode cX5_init 100 = .ok (.return_, 1) := by decide +kernel
theorem dX5_house_0 : decode cX5_house 0 = .ok (.iload_n 1, 1) := by decide +kernel
theorem dX5_house_1 : decode cX5_house 1 = .ok (.iconst 0, 1) := by decide +kernel
theorem dX5_house_2 : decode cX5_house 2 = .ok (.bipush 50, 2) := by decide +kernel
theorem dX5_house_4 : decode cX5_house 4 = .ok (.invokestatic 68, 3) := by decide +kernel
theorem dX5_house_7 : decode cX5_house 7 = .ok (.ifCond .ne 13, 3) := by decide +kernel
theorem dX5_house_10 : decode cX5_house 10 = .ok (.iload_n 2, 1) := by decide +kernel
theorem dX5_house_11 : decode cX5_house 11 = .ok (.iconst 0, 1) := by decide +kernel
theorem dX5_house_12 : decode cX5_house 12 = .ok (.bipush 50, 2) := by decide +kernel
theorem dX5_house_14 : decode cX5_house 14 = .ok (.invokestatic 68, 3) := by decide +kernel
theorem dX5_house_17 : decode cX5_house 17 = .ok (.ifCond .eq 6, 3) := by decide +kernel
theorem dX5_house_20 : decode cX5_house 20 = .ok (.ldc 72, 2) := by decide +kernel
theorem dX5_house_22 : decode cX5_house 22 = .ok (.ireturn, 1) := by decide +kernel
theorem dX5_house_23 : decode cX5_house 23 = .ok (.iload_n 3, 1) := by decide +kernel
theorem dX5_house_24 : decode cX5_house 24 = .ok (.bipush 100, 2) := by decide +kernel
theorem dX5_house_26 : decode cX5_house 26 = .ok (.sipush 5000, 3) := by decide +kernel
theorem dX5_house_29 : decode cX5_house 29 = .ok (.invokestatic 68, 3) := by decide +kernel
theorem dX5_house_32 : decode cX5_house 32 = .ok (.ifCond .eq 6, 3) := by decide +kernel
theorem dX5_house_35 : decode cX5_house 35 = .ok (.ldc 72, 2) := by decide +kernel
theorem dX5_house_37 : decode cX5_house 37 = .ok (.ireturn, 1) := by decide +kernel
theorem dX5_house_38 : decode cX5_house 38 = .ok (.aload_n 0, 1) := by decide +kernel
theorem dX5_house_39 : decode cX5_house 39 = .ok (.getfield 36, 3) := by decide +kernel
theorem dX5_house_42 : decode cX5_house 42 = .ok (.ifCond .lt 15, 3) := by decide +kernel
theorem dX5_house_45 : decode cX5_house 45 = .ok (.aload_n 0, 1) := by decide +kernel
theorem dX5_house_46 : decode cX5_house 46 = .ok (.getfield 36, 3) := by decide +kernel
theorem dX5_house_49 : decode cX5_house 49 = .ok (.aload_n 0, 1) := by decide +kernel
theorem dX5_house_50 : decode cX5_house 50 = .ok (.getfield 11, 3) := by decide +kernel
theorem dX5_house_53 : decode cX5_house 53 = .ok (.arraylength, 1) := by decide +kernel
theorem dX5_house_54 : decode cX5_house 54 = .ok (.if_icmp .lt 6, 3) := by decide +kernel
theorem dX5_house_57 : decode cX5_house 57 = .ok (.ldc 73, 2) := by decide +kernel
theorem dX5_house_59 : decode cX5_house 59 = .ok (.ireturn, 1) := by decide +kernel
theorem dX5_house_60 : decode cX5_house 60 = .ok (.aload_n 0, 1) := by decide +kernel
theorem dX5_house_61 : decode cX5_house 61 = .ok (.getfield 36, 3) := by decide +kernel
theorem dX5_house_64 : decode cX5_house 64 = .ok (.istore 4, 2) := by decide +kernel
theorem dX5_house_66 : decode cX5_house 66 = .ok (.aload_n 0, 1) := by decide +kernel
theorem dX5_house_67 : decode cX5_house 67 = .ok (.getfield 11, 3) := by decide +kernel
theorem dX5_house_70 : decode cX5_house 70 = .ok (.iload 4, 2) := by decide +kernel
theorem dX5_house_72 : decode cX5_house 72 = .ok (.new 9, 3) := by decide +kernel
theorem dX5_house_75 : decode cX5_house 75 = .ok (.dup, 1) := by decide +kernel
theorem dX5_house_76 : decode cX5_house 76 = .ok (.iload_n 1, 1) := by decide +kernel
theorem dX5_house_77 : decode cX5_house 77 = .ok (.iload_n 2, 1) := by decide +kernel
theorem dX5_house_78 : decode cX5_house 78 = .ok (.iload_n 3, 1) := by decide +kernel
theorem dX5_house_79 : decode cX5_house 79 = .ok (.invokespecial 74, 3) := by decide +kernel
theorem dX5_house_82 : decode cX5_house 82 = .ok (.aastore, 1) := by decide +kernel
theorem dX5_house_83 : decode cX5_house 83 = .ok (.aload_n 0, 1) := by decide +kernel
theorem dX5_house_84 : decode cX5_house 84 = .ok (.dup, 1) := by decide +kernel
theorem dX5_house_85 : decode cX5_house 85 = .ok (.getfield 36, 3) := by decide +kernel
theorem dX5_house_88 : decode cX5_house 88 = .ok (.iconst 1, 1) := by decide +kernel
theorem dX5_house_89 : decode cX5_house 89 = .ok (.iadd, 1) := by decide +kernel
theorem dX5_house_90 : decode cX5_house 90 = .ok (.putfield 36, 3) := by decide +kernel
theorem dX5_house_93 : decode cX5_house 93 = .ok (.iload 4, 2) := by decide +kernel
theorem dX5_house_95 : decode cX5_house 95 = .ok (.ireturn, 1) := by decide +kernel
theorem dX5_prior_0 : decode cX5_prior 0 = .ok (.aload_n 0, 1) := by decide +kernel
theorem dX5_prior_1 : decode cX5_prior 1 = .ok (.iload_n 1, 1) := by decide +kernel
theorem dX5_prior_2 : decode cX5_prior 2 = .ok (.invokevirtual 77, 3) := by decide +kernel
theorem dX5_prior_5 : decode cX5_prior 5 = .ok (.astore 6, 2) := by decide +kernel
theorem dX5_prior_7 : decode cX5_prior 7 = .ok (.aload 6, 2) := by decide +kernel
theorem dX5_prior_9 : decode cX5_prior 9 = .ok (.ifnonnull 6, 3) := by decide +kernel
theorem dX5_prior_12 : decode cX5_prior 12 = .ok (.ldc 72, 2) := by decide +kernel
theorem dX5_prior_14 : decode cX5_prior 14 = .ok (.ireturn, 1) := by decide +kernel
theorem dX5_prior_15 : decode cX5_prior 15 = .ok (.iload_n 2, 1) := by decide +kernel
theorem dX5_prior_16 : decode cX5_prior 16 = .ok (.iconst 0, 1) := by decide +kernel
theorem dX5_prior_17 : decode cX5_prior 17 = .ok (.bipush 50, 2) := by decide +kernel
theorem dX5_prior_19 : decode cX5_prior 19 = .ok (.invokestatic 68, 3) := by decide +kernel
theorem dX5_prior_22 : decode cX5_prior 22 = .ok (.ifCond .ne 13, 3) := by decide +kernel
theorem dX5_prior_25 : decode cX5_prior 25 = .ok (.iload_n 3, 1) := by decide +kernel
theorem dX5_prior_26 : decode cX5_prior 26 = .ok (.iconst 0, 1) := by decide +kernel
theorem dX5_prior_27 : decode cX5_prior 27 = .ok (.bipush 50, 2) := by decide +kernel
theorem dX5_prior_29 : decode cX5_prior 29 = .ok (.invokestatic 68, 3) := by decide +kernel
theorem dX5_prior_32 : decode cX5_prior 32 = .ok (.ifCond .eq 6, 3) := by decide +kernel
theorem dX5_prior_35 : decode cX5_prior 35 = .ok (.ldc 72, 2) := by decide +kernel
theorem dX5_prior_37 : decode cX5_prior 37 = .ok (.ireturn, 1) := by decide +kernel
theorem dX5_prior_38 : decode cX5_prior 38 = .ok (.iload 4, 2) := by decide +kernel
theorem dX5_prior_40 : decode cX5_prior 40 = .ok (.iload_n 2, 1) := by decide +kernel
theorem dX5_prior_41 : decode cX5_prior 41 = .ok (.bipush 50, 2) := by decide +kernel
theorem dX5_prior_43 : decode cX5_prior 43 = .ok (.invokestatic 68, 3) := by decide +kernel
theorem dX5_prior_46 : decode cX5_prior 46 = .ok (.ifCond .ne 14, 3) := by decide +kernel
theorem dX5_prior_49 : decode cX5_prior 49 = .ok (.iload 5, 2) := by decide +kernel
theorem dX5_prior_51 : decode cX5_prior 51 = .ok (.iload_n 3, 1) := by decide +kernel
theorem dX5_prior_52 : decode cX5_prior 52 = .ok (.bipush 50, 2) := by decide +kernel
theorem dX5_prior_54 : decode cX5_prior 54 = .ok (.invokestatic 68, 3) := by decide +kernel
theorem dX5_prior_57 : decode cX5_prior 57 = .ok (.ifCond .eq 6, 3) := by decide +kernel
theorem dX5_prior_60 : decode cX5_prior 60 = .ok (.ldc 72, 2) := by decide +kernel
theorem dX5_prior_62 : decode cX5_prior 62 = .ok (.ireturn, 1) := by decide +kernel
theorem dX5_prior_63 : decode cX5_prior 63 = .ok (.aload 6, 2) := by decide +kernel
theorem dX5_prior_65 : decode cX5_prior 65 = .ok (.getfield 81, 3) := by decide +kernel
theorem dX5_prior_68 : decode cX5_prior 68 = .ok (.ifCond .gt 11, 3) := by decide +kernel
theorem dX5_prior_71 : decode cX5_prior 71 = .ok (.aload 6, 2) := by decide +kernel
theorem dX5_prior_73 : decode cX5_prior 73 = .ok (.getfield 84, 3) := by decide +kernel
theorem dX5_prior_76 : decode cX5_prior 76 = .ok (.ifCond .le 6, 3) := by decide +kernel
theorem dX5_prior_79 : decode cX5_prior 79 = .ok (.ldc 87, 2) := by decide +kernel
theorem dX5_prior_81 : decode cX5_prior 81 = .ok (.ireturn, 1) := by decide +kernel
theorem dX5_prior_82 : decode cX5_prior 82 = .ok (.aload 6, 2) := by decide +kernel
theorem dX5_prior_84 : decode cX5_prior 84 = .ok (.iload_n 2, 1) := by decide +kernel
theorem dX5_prior_85 : decode cX5_prior 85 = .ok (.putfield 88, 3) := by decide +kernel
theorem dX5_prior_88 : decode cX5_prior 88 = .ok (.aload 6, 2) := by decide +kernel
theorem dX5_prior_90 : decode cX5_prior 90 = .ok (.iload_n 3, 1) := by decide +kernel
theorem dX5_prior_91 : decode cX5_prior 91 = .ok (.putfield 91, 3) := by decide +kernel
theorem dX5_prior_94 : decode cX5_prior 94 = .ok (.aload 6, 2) := by decide +kernel
theorem dX5_prior_96 : decode cX5_prior 96 = .ok (.iload 4, 2) := by decide +kernel
theorem dX5_prior_98 : decode cX5_prior 98 = .ok (.putfield 94, 3) := by decide +kernel
theorem dX5_prior_101 : decode cX5_prior 101 = .ok (.aload 6, 2) := by decide +kernel
theorem dX5_prior_103 : decode cX5_prior 103 = .ok (.iload 5, 2) := by decide +kernel
theorem dX5_prior_105 : decode cX5_prior 105 = .ok (.putfield 97, 3) := by decide +kernel
theorem dX5_prior_108 : decode cX5_prior 108 = .ok (.iconst 1, 1) := by decide +kernel
theorem dX5_prior_109 : decode cX5_prior 109 = .ok (.ireturn, 1) := by decide +kernel
theorem dX5_day_0 : decode cX5_day 0 = .ok (.iload_n 1, 1) := by decide +kernel
theorem dX5_day_1 : decode cX5_day 1 = .ok (.iconst 0, 1) := by decide +kernel
theorem dX5_day_2 : decode cX5_day 2 = .ok (.bipush 40, 2) := by decide +kernel
theorem dX5_day_4 : decode cX5_day 4 = .ok (.invokestatic 68, 3) := by decide +kernel
theorem dX5_day_7 : decode cX5_day 7 = .ok (.ifCond .eq 6, 3) := by decide +kernel
theorem dX5_day_10 : decode cX5_day 10 = .ok (.ldc 72, 2) := by decide +kernel
theorem dX5_day_12 : decode cX5_day 12 = .ok (.ireturn, 1) := by decide +kernel
theorem dX5_day_13 : decode cX5_day 13 = .ok (.aload_n 0, 1) := by decide +kernel
theorem dX5_day_14 : decode cX5_day 14 = .ok (.getfield 40, 3) := by decide +kernel
theorem dX5_day_17 : decode cX5_day 17 = .ok (.sipush 20000, 3) := by decide +kernel
theorem dX5_day_20 : decode cX5_day 20 = .ok (.if_icmp .lt 6, 3) := by decide +kernel
theorem dX5_day_23 : decode cX5_day 23 = .ok (.ldc 87, 2) := by decide +kernel
theorem dX5_day_25 : decode cX5_day 25 = .ok (.ireturn, 1) := by decide +kernel
theorem dX5_day_26 : decode cX5_day 26 = .ok (.aload_n 0, 1) := by decide +kernel
theorem dX5_day_27 : decode cX5_day 27 = .ok (.dup, 1) := by decide +kernel
theorem dX5_day_28 : decode cX5_day 28 = .ok (.getfield 40, 3) := by decide +kernel
theorem dX5_day_31 : decode cX5_day 31 = .ok (.iconst 1, 1) := by decide +kernel
theorem dX5_day_32 : decode cX5_day 32 = .ok (.iadd, 1) := by decide +kernel
theorem dX5_day_33 : decode cX5_day 33 = .ok (.putfield 40, 3) := by decide +kernel
theorem dX5_day_36 : decode cX5_day 36 = .ok (.iconst 0, 1) := by decide +kernel
theorem dX5_day_37 : decode cX5_day 37 = .ok (.istore_n 2, 1) := by decide +kernel
theorem dX5_day_38 : decode cX5_day 38 = .ok (.aload_n 0, 1) := by decide +kernel
theorem dX5_day_39 : decode cX5_day 39 = .ok (.getfield 11, 3) := by decide +kernel
theorem dX5_day_42 : decode cX5_day 42 = .ok (.astore_n 3, 1) := by decide +kernel
theorem dX5_day_43 : decode cX5_day 43 = .ok (.aload_n 3, 1) := by decide +kernel
theorem dX5_day_44 : decode cX5_day 44 = .ok (.arraylength, 1) := by decide +kernel
theorem dX5_day_45 : decode cX5_day 45 = .ok (.istore 4, 2) := by decide +kernel
theorem dX5_day_47 : decode cX5_day 47 = .ok (.iconst 0, 1) := by decide +kernel
theorem dX5_day_48 : decode cX5_day 48 = .ok (.istore 5, 2) := by decide +kernel
theorem dX5_day_50 : decode cX5_day 50 = .ok (.iload 5, 2) := by decide +kernel
theorem dX5_day_52 : decode cX5_day 52 = .ok (.iload 4, 2) := by decide +kernel
theorem dX5_day_54 : decode cX5_day 54 = .ok (.if_icmp .ge 40, 3) := by decide +kernel
theorem dX5_day_57 : decode cX5_day 57 = .ok (.aload_n 3, 1) := by decide +kernel
theorem dX5_day_58 : decode cX5_day 58 = .ok (.iload 5, 2) := by decide +kernel
theorem dX5_day_60 : decode cX5_day 60 = .ok (.aaload, 1) := by decide +kernel
theorem dX5_day_61 : decode cX5_day 61 = .ok (.astore 6, 2) := by decide +kernel
theorem dX5_day_63 : decode cX5_day 63 = .ok (.aload 6, 2) := by decide +kernel
theorem dX5_day_65 : decode cX5_day 65 = .ok (.ifnonnull 6, 3) := by decide +kernel
theorem dX5_day_68 : decode cX5_day 68 = .ok (.goto 20, 3) := by decide +kernel
theorem dX5_day_71 : decode cX5_day 71 = .ok (.aload 6, 2) := by decide +kernel
theorem dX5_day_73 : decode cX5_day 73 = .ok (.iload_n 1, 1) := by decide +kernel
theorem dX5_day_74 : decode cX5_day 74 = .ok (.invokevirtual 100, 3) := by decide +kernel
theorem dX5_day_77 : decode cX5_day 77 = .ok (.aload 6, 2) := by decide +kernel
theorem dX5_day_79 : decode cX5_day 79 = .ok (.invokevirtual 104, 3) := by decide +kernel
theorem dX5_day_82 : decode cX5_day 82 = .ok (.ifCond .ne 6, 3) := by decide +kernel
theorem dX5_day_85 : decode cX5_day 85 = .ok (.iinc 2 1, 3) := by decide +kernel
theorem dX5_day_88 : decode cX5_day 88 = .ok (.iinc 5 1, 3) := by decide +kernel
theorem dX5_day_91 : decode cX5_day 91 = .ok (.goto (-41), 3) := by decide +kernel
theorem dX5_day_94 : decode cX5_day 94 = .ok (.iload_n 2, 1) := by decide +kernel
theorem dX5_day_95 : decode cX5_day 95 = .ok (.ireturn, 1) := by decide +kernel
theorem dX5_look_0 : decode cX5_look 0 = .ok (.iload_n 1, 1) := by decide +kernel
theorem dX5_look_1 : decode cX5_look 1 = .ok (.iconst 0, 1) := by decide +kernel
theorem dX5_look_2 : decode cX5_look 2 = .ok (.bipush 10, 2) := by decide +kernel
theorem dX5_look_4 : decode cX5_look 4 = .ok (.invokestatic 68, 3) := by decide +kernel
theorem dX5_look_7 : decode cX5_look 7 = .ok (.ifCond .ne 13, 3) := by decide +kernel
theorem dX5_look_10 : decode cX5_look 10 = .ok (.iload_n 2, 1) := by decide +kernel
theorem dX5_look_11 : decode cX5_look 11 = .ok (.iconst 0, 1) := by decide +kernel
theorem dX5_look_12 : decode cX5_look 12 = .ok (.bipush 40, 2) := by decide +kernel
theorem dX5_look_14 : decode cX5_look 14 = .ok (.invokestatic 68, 3) := by decide +kernel
theorem dX5_look_17 : decode cX5_look 17 = .ok (.ifCond .eq 6, 3) := by decide +kernel
theorem dX5_look_20 : decode cX5_look 20 = .ok (.ldc 72, 2) := by decide +kernel
theorem dX5_look_22 : decode cX5_look 22 = .ok (.ireturn, 1) := by decide +kernel
theorem dX5_look_23 : decode cX5_look 23 = .ok (.aload_n 0, 1) := by decide +kernel
theorem dX5_look_24 : decode cX5_look 24 = .ok (.iload_n 1, 1) := by decide +kernel
theorem dX5_look_25 : decode cX5_look 25 = .ok (.putfield 43, 3) := by decide +kernel
theorem dX5_look_28 : decode cX5_look 28 = .ok (.aload_n 0, 1) := by decide +kernel
theorem dX5_look_29 : decode cX5_look 29 = .ok (.iload_n 2, 1) := by decide +kernel
theorem dX5_look_30 : decode cX5_look 30 = .ok (.putfield 46, 3) := by decide +kernel
theorem dX5_look_33 : decode cX5_look 33 = .ok (.aload_n 0, 1) := by decide +kernel
theorem dX5_look_34 : decode cX5_look 34 = .ok (.invokevirtual 108, 3) := by decide +kernel
theorem dX5_look_37 : decode cX5_look 37 = .ok (.ireturn, 1) := by decide +kernel
theorem dX5_told_0 : decode cX5_told 0 = .ok (.aload_n 0, 1) := by decide +kernel
theorem dX5_told_1 : decode cX5_told 1 = .ok (.iload_n 1, 1) := by decide +kernel
theorem dX5_told_2 : decode cX5_told 2 = .ok (.invokevirtual 77, 3) := by decide +kernel
theorem dX5_told_5 : decode cX5_told 5 = .ok (.astore_n 3, 1) := by decide +kernel
theorem dX5_told_6 : decode cX5_told 6 = .ok (.aload_n 3, 1) := by decide +kernel
theorem dX5_told_7 : decode cX5_told 7 = .ok (.ifnonnull 6, 3) := by decide +kernel
theorem dX5_told_10 : decode cX5_told 10 = .ok (.ldc 72, 2) := by decide +kernel
theorem dX5_told_12 : decode cX5_told 12 = .ok (.ireturn, 1) := by decide +kernel
theorem dX5_told_13 : decode cX5_told 13 = .ok (.iload_n 2, 1) := by decide +kernel
theorem dX5_told_14 : decode cX5_told 14 = .ok (.tableswitch 129 0 10 #[58, 63, 68, 73, 78, 83, 88, 109, 114, 119, 124], 58) := by decide +kernel
theorem dX5_told_72 : decode cX5_told 72 = .ok (.aload_n 3, 1) := by decide +kernel
theorem dX5_told_73 : decode cX5_told 73 = .ok (.getfield 88, 3) := by decide +kernel
theorem dX5_told_76 : decode cX5_told 76 = .ok (.ireturn, 1) := by decide +kernel
theorem dX5_told_77 : decode cX5_told 77 = .ok (.aload_n 3, 1) := by decide +kernel
theorem dX5_told_78 : decode cX5_told 78 = .ok (.getfield 91, 3) := by decide +kernel
theorem dX5_told_81 : decode cX5_told 81 = .ok (.ireturn, 1) := by decide +kernel
theorem dX5_told_82 : decode cX5_told 82 = .ok (.aload_n 3, 1) := by decide +kernel
theorem dX5_told_83 : decode cX5_told 83 = .ok (.getfield 94, 3) := by decide +kernel
theorem dX5_told_86 : decode cX5_told 86 = .ok (.ireturn, 1) := by decide +kernel
theorem dX5_told_87 : decode cX5_told 87 = .ok (.aload_n 3, 1) := by decide +kernel
theorem dX5_told_88 : decode cX5_told 88 = .ok (.getfield 97, 3) := by decide +kernel
theorem dX5_told_91 : decode cX5_told 91 = .ok (.ireturn, 1) := by decide +kernel
theorem dX5_told_92 : decode cX5_told 92 = .ok (.aload_n 3, 1) := by decide +kernel
theorem dX5_told_93 : decode cX5_told 93 = .ok (.getfield 112, 3) := by decide +kernel
theorem dX5_told_96 : decode cX5_told 96 = .ok (.ireturn, 1) := by decide +kernel
theorem dX5_told_97 : decode cX5_told 97 = .ok (.aload_n 3, 1) := by decide +kernel
theorem dX5_told_98 : decode cX5_told 98 = .ok (.getfield 115, 3) := by decide +kernel
theorem dX5_told_101 : decode cX5_told 101 = .ok (.ireturn, 1) := by decide +kernel
theorem dX5_told_102 : decode cX5_told 102 = .ok (.aload_n 3, 1) := by decide +kernel
theorem dX5_told_103 : decode cX5_told 103 = .ok (.aload_n 0, 1) := by decide +kernel
theorem dX5_told_104 : decode cX5_told 104 = .ok (.getfield 43, 3) := by decide +kernel
theorem dX5_told_107 : decode cX5_told 107 = .ok (.aload_n 0, 1) := by decide +kernel
theorem dX5_told_108 : decode cX5_told 108 = .ok (.getfield 46, 3) := by decide +kernel
theorem dX5_told_111 : decode cX5_told 111 = .ok (.invokevirtual 118, 3) := by decide +kernel
theorem dX5_told_114 : decode cX5_told 114 = .ok (.ifCond .eq 7, 3) := by decide +kernel
theorem dX5_told_117 : decode cX5_told 117 = .ok (.iconst 1, 1) := by decide +kernel
theorem dX5_told_118 : decode cX5_told 118 = .ok (.goto 4, 3) := by decide +kernel
theorem dX5_told_121 : decode cX5_told 121 = .ok (.iconst 0, 1) := by decide +kernel
theorem dX5_told_122 : decode cX5_told 122 = .ok (.ireturn, 1) := by decide +kernel
theorem dX5_told_123 : decode cX5_told 123 = .ok (.aload_n 3, 1) := by decide +kernel
theorem dX5_told_124 : decode cX5_told 124 = .ok (.getfield 81, 3) := by decide +kernel
theorem dX5_told_127 : decode cX5_told 127 = .ok (.ireturn, 1) := by decide +kernel
theorem dX5_told_128 : decode cX5_told 128 = .ok (.aload_n 3, 1) := by decide +kernel
theorem dX5_told_129 : decode cX5_told 129 = .ok (.getfield 122, 3) := by decide +kernel
theorem dX5_told_132 : decode cX5_told 132 = .ok (.ireturn, 1) := by decide +kernel
theorem dX5_told_133 : decode cX5_told 133 = .ok (.aload_n 3, 1) := by decide +kernel
theorem dX5_told_134 : decode cX5_told 134 = .ok (.getfield 84, 3) := by decide +kernel
theorem dX5_told_137 : decode cX5_told 137 = .ok (.ireturn, 1) := by decide +kernel
theorem dX5_told_138 : decode cX5_told 138 = .ok (.aload_n 3, 1) := by decide +kernel
theorem dX5_told_139 : decode cX5_told 139 = .ok (.getfield 125, 3) := by decide +kernel
theorem dX5_told_142 : decode cX5_told 142 = .ok (.ireturn, 1) := by decide +kernel
theorem dX5_told_143 : decode cX5_told 143 = .ok (.ldc 72, 2) := by decide +kernel
theorem dX5_told_145 : decode cX5_told 145 = .ok (.ireturn, 1) := by decide +kernel
theorem dX5_lasts_0 : decode cX5_lasts 0 = .ok (.aload_n 0, 1) := by decide +kernel
theorem dX5_lasts_1 : decode cX5_lasts 1 = .ok (.iload_n 1, 1) := by decide +kernel
theorem dX5_lasts_2 : decode cX5_lasts 2 = .ok (.invokevirtual 77, 3) := by decide +kernel
theorem dX5_lasts_5 : decode cX5_lasts 5 = .ok (.astore_n 3, 1) := by decide +kernel
theorem dX5_lasts_6 : decode cX5_lasts 6 = .ok (.aload_n 3, 1) := by decide +kernel
theorem dX5_lasts_7 : decode cX5_lasts 7 = .ok (.ifnull 13, 3) := by decide +kernel
theorem dX5_lasts_10 : decode cX5_lasts 10 = .ok (.iload_n 2, 1) := by decide +kernel
theorem dX5_lasts_11 : decode cX5_lasts 11 = .ok (.iconst 0, 1) := by decide +kernel
theorem dX5_lasts_12 : decode cX5_lasts 12 = .ok (.bipush 40, 2) := by decide +kernel
theorem dX5_lasts_14 : decode cX5_lasts 14 = .ok (.invokestatic 68, 3) := by decide +kernel
theorem dX5_lasts_17 : decode cX5_lasts 17 = .ok (.ifCond .eq 6, 3) := by decide +kernel
theorem dX5_lasts_20 : decode cX5_lasts 20 = .ok (.ldc 72, 2) := by decide +kernel
theorem dX5_lasts_22 : decode cX5_lasts 22 = .ok (.ireturn, 1) := by decide +kernel
theorem dX5_lasts_23 : decode cX5_lasts 23 = .ok (.aload_n 3, 1) := by decide +kernel
theorem dX5_lasts_24 : decode cX5_lasts 24 = .ok (.iload_n 2, 1) := by decide +kernel
theorem dX5_lasts_25 : decode cX5_lasts 25 = .ok (.invokevirtual 128, 3) := by decide +kernel
theorem dX5_lasts_28 : decode cX5_lasts 28 = .ok (.ireturn, 1) := by decide +kernel
theorem dX5_stock_0 : decode cX5_stock 0 = .ok (.iload_n 1, 1) := by decide +kernel
theorem dX5_stock_1 : decode cX5_stock 1 = .ok (.iconst 0, 1) := by decide +kernel
theorem dX5_stock_2 : decode cX5_stock 2 = .ok (.ldc 132, 2) := by decide +kernel
theorem dX5_stock_4 : decode cX5_stock 4 = .ok (.aload_n 0, 1) := by decide +kernel
theorem dX5_stock_5 : decode cX5_stock 5 = .ok (.getfield 55, 3) := by decide +kernel
theorem dX5_stock_8 : decode cX5_stock 8 = .ok (.isub, 1) := by decide +kernel
theorem dX5_stock_9 : decode cX5_stock 9 = .ok (.invokestatic 68, 3) := by decide +kernel
theorem dX5_stock_12 : decode cX5_stock 12 = .ok (.ifCond .eq 6, 3) := by decide +kernel
theorem dX5_stock_15 : decode cX5_stock 15 = .ok (.ldc 72, 2) := by decide +kernel
theorem dX5_stock_17 : decode cX5_stock 17 = .ok (.ireturn, 1) := by decide +kernel
theorem dX5_stock_18 : decode cX5_stock 18 = .ok (.aload_n 0, 1) := by decide +kernel
theorem dX5_stock_19 : decode cX5_stock 19 = .ok (.dup, 1) := by decide +kernel
theorem dX5_stock_20 : decode cX5_stock 20 = .ok (.getfield 55, 3) := by decide +kernel
theorem dX5_stock_23 : decode cX5_stock 23 = .ok (.iload_n 1, 1) := by decide +kernel
theorem dX5_stock_24 : decode cX5_stock 24 = .ok (.iadd, 1) := by decide +kernel
theorem dX5_stock_25 : decode cX5_stock 25 = .ok (.putfield 55, 3) := by decide +kernel
theorem dX5_stock_28 : decode cX5_stock 28 = .ok (.aload_n 0, 1) := by decide +kernel
theorem dX5_stock_29 : decode cX5_stock 29 = .ok (.dup, 1) := by decide +kernel
theorem dX5_stock_30 : decode cX5_stock 30 = .ok (.getfield 58, 3) := by decide +kernel
theorem dX5_stock_33 : decode cX5_stock 33 = .ok (.iload_n 1, 1) := by decide +kernel
theorem dX5_stock_34 : decode cX5_stock 34 = .ok (.i2l, 1) := by decide +kernel
theorem dX5_stock_35 : decode cX5_stock 35 = .ok (.ladd, 1) := by decide +kernel
theorem dX5_stock_36 : decode cX5_stock 36 = .ok (.putfield 58, 3) := by decide +kernel
theorem dX5_stock_39 : decode cX5_stock 39 = .ok (.aload_n 0, 1) := by decide +kernel
theorem dX5_stock_40 : decode cX5_stock 40 = .ok (.getfield 55, 3) := by decide +kernel
theorem dX5_stock_43 : decode cX5_stock 43 = .ok (.ireturn, 1) := by decide +kernel
theorem dX5_lorry_0 : decode cX5_lorry 0 = .ok (.iload_n 1, 1) := by decide +kernel
theorem dX5_lorry_1 : decode cX5_lorry 1 = .ok (.bipush 100, 2) := by decide +kernel
theorem dX5_lorry_3 : decode cX5_lorry 3 = .ok (.sipush 9000, 3) := by decide +kernel
theorem dX5_lorry_6 : decode cX5_lorry 6 = .ok (.invokestatic 68, 3) := by decide +kernel
theorem dX5_lorry_9 : decode cX5_lorry 9 = .ok (.ifCond .eq 6, 3) := by decide +kernel
theorem dX5_lorry_12 : decode cX5_lorry 12 = .ok (.ldc 72, 2) := by decide +kernel
theorem dX5_lorry_14 : decode cX5_lorry 14 = .ok (.ireturn, 1) := by decide +kernel
theorem dX5_lorry_15 : decode cX5_lorry 15 = .ok (.aload_n 0, 1) := by decide +kernel
theorem dX5_lorry_16 : decode cX5_lorry 16 = .ok (.getfield 49, 3) := by decide +kernel
theorem dX5_lorry_19 : decode cX5_lorry 19 = .ok (.istore_n 2, 1) := by decide +kernel
theorem dX5_lorry_20 : decode cX5_lorry 20 = .ok (.aload_n 0, 1) := by decide +kernel
theorem dX5_lorry_21 : decode cX5_lorry 21 = .ok (.iload_n 1, 1) := by decide +kernel
theorem dX5_lorry_22 : decode cX5_lorry 22 = .ok (.putfield 49, 3) := by decide +kernel
theorem dX5_lorry_25 : decode cX5_lorry 25 = .ok (.iload_n 2, 1) := by decide +kernel
theorem dX5_lorry_26 : decode cX5_lorry 26 = .ok (.ireturn, 1) := by decide +kernel
theorem dX5_calls_0 : decode cX5_calls 0 = .ok (.iconst 0, 1) := by decide +kernel
theorem dX5_calls_1 : decode cX5_calls 1 = .ok (.istore_n 1, 1) := by decide +kernel
theorem dX5_calls_2 : decode cX5_calls 2 = .ok (.iconst 0, 1) := by decide +kernel
theorem dX5_calls_3 : decode cX5_calls 3 = .ok (.istore_n 2, 1) := by decide +kernel
theorem dX5_calls_4 : decode cX5_calls 4 = .ok (.iconst 0, 1) := by decide +kernel
theorem dX5_calls_5 : decode cX5_calls 5 = .ok (.istore_n 3, 1) := by decide +kernel
theorem dX5_calls_6 : decode cX5_calls 6 = .ok (.iconst 0, 1) := by decide +kernel
theorem dX5_calls_7 : decode cX5_calls 7 = .ok (.istore 4, 2) := by decide +kernel
theorem dX5_calls_9 : decode cX5_calls 9 = .ok (.iload 4, 2) := by decide +kernel
theorem dX5_calls_11 : decode cX5_calls 11 = .ok (.bipush 24, 2) := by decide +kernel
theorem dX5_calls_13 : decode cX5_calls 13 = .ok (.if_icmp .ge 80, 3) := by decide +kernel
theorem dX5_calls_16 : decode cX5_calls 16 = .ok (.iload_n 2, 1) := by decide +kernel
theorem dX5_calls_17 : decode cX5_calls 17 = .ok (.invokestatic 133, 3) := by decide +kernel
theorem dX5_calls_20 : decode cX5_calls 20 = .ok (.bipush 8, 2) := by decide +kernel
theorem dX5_calls_22 : decode cX5_calls 22 = .ok (.if_icmp .ge 71, 3) := by decide +kernel
theorem dX5_calls_25 : decode cX5_calls 25 = .ok (.aload_n 0, 1) := by decide +kernel
theorem dX5_calls_26 : decode cX5_calls 26 = .ok (.iload_n 1, 1) := by decide +kernel
theorem dX5_calls_27 : decode cX5_calls 27 = .ok (.invokevirtual 138, 3) := by decide +kernel
theorem dX5_calls_30 : decode cX5_calls 30 = .ok (.istore 5, 2) := by decide +kernel
theorem dX5_calls_32 : decode cX5_calls 32 = .ok (.aload_n 0, 1) := by decide +kernel
theorem dX5_calls_33 : decode cX5_calls 33 = .ok (.iload 5, 2) := by decide +kernel
theorem dX5_calls_35 : decode cX5_calls 35 = .ok (.invokevirtual 77, 3) := by decide +kernel
theorem dX5_calls_38 : decode cX5_calls 38 = .ok (.astore 6, 2) := by decide +kernel
theorem dX5_calls_40 : decode cX5_calls 40 = .ok (.aload 6, 2) := by decide +kernel
theorem dX5_calls_42 : decode cX5_calls 42 = .ok (.ifnonnull 6, 3) := by decide +kernel
theorem dX5_calls_45 : decode cX5_calls 45 = .ok (.goto 48, 3) := by decide +kernel
theorem dX5_calls_48 : decode cX5_calls 48 = .ok (.iload_n 1, 1) := by decide +kernel
theorem dX5_calls_49 : decode cX5_calls 49 = .ok (.iconst 1, 1) := by decide +kernel
theorem dX5_calls_50 : decode cX5_calls 50 = .ok (.iload 5, 2) := by decide +kernel
theorem dX5_calls_52 : decode cX5_calls 52 = .ok (.ishl, 1) := by decide +kernel
theorem dX5_calls_53 : decode cX5_calls 53 = .ok (.ior, 1) := by decide +kernel
theorem dX5_calls_54 : decode cX5_calls 54 = .ok (.istore_n 1, 1) := by decide +kernel
theorem dX5_calls_55 : decode cX5_calls 55 = .ok (.iload_n 3, 1) := by decide +kernel
theorem dX5_calls_56 : decode cX5_calls 56 = .ok (.aload 6, 2) := by decide +kernel
theorem dX5_calls_58 : decode cX5_calls 58 = .ok (.invokevirtual 141, 3) := by decide +kernel
theorem dX5_calls_61 : decode cX5_calls 61 = .ok (.iadd, 1) := by decide +kernel
theorem dX5_calls_62 : decode cX5_calls 62 = .ok (.aload_n 0, 1) := by decide +kernel
theorem dX5_calls_63 : decode cX5_calls 63 = .ok (.getfield 49, 3) := by decide +kernel
theorem dX5_calls_66 : decode cX5_calls 66 = .ok (.if_icmp .le 6, 3) := by decide +kernel
theorem dX5_calls_69 : decode cX5_calls 69 = .ok (.goto 18, 3) := by decide +kernel
theorem dX5_calls_72 : decode cX5_calls 72 = .ok (.iload_n 3, 1) := by decide +kernel
theorem dX5_calls_73 : decode cX5_calls 73 = .ok (.aload 6, 2) := by decide +kernel
theorem dX5_calls_75 : decode cX5_calls 75 = .ok (.invokevirtual 141, 3) := by decide +kernel
theorem dX5_calls_78 : decode cX5_calls 78 = .ok (.iadd, 1) := by decide +kernel
theorem dX5_calls_79 : decode cX5_calls 79 = .ok (.istore_n 3, 1) := by decide +kernel
theorem dX5_calls_80 : decode cX5_calls 80 = .ok (.iload_n 2, 1) := by decide +kernel
theorem dX5_calls_81 : decode cX5_calls 81 = .ok (.iconst 1, 1) := by decide +kernel
theorem dX5_calls_82 : decode cX5_calls 82 = .ok (.iload 5, 2) := by decide +kernel
theorem dX5_calls_84 : decode cX5_calls 84 = .ok (.ishl, 1) := by decide +kernel
theorem dX5_calls_85 : decode cX5_calls 85 = .ok (.ior, 1) := by decide +kernel
theorem dX5_calls_86 : decode cX5_calls 86 = .ok (.istore_n 2, 1) := by decide +kernel
theorem dX5_calls_87 : decode cX5_calls 87 = .ok (.iinc 4 1, 3) := by decide +kernel
theorem dX5_calls_90 : decode cX5_calls 90 = .ok (.goto (-81), 3) := by decide +kernel
theorem dX5_calls_93 : decode cX5_calls 93 = .ok (.iload_n 2, 1) := by decide +kernel
theorem dX5_calls_94 : decode cX5_calls 94 = .ok (.ireturn, 1) := by decide +kernel
theorem dX5_round_0 : decode cX5_round 0 = .ok (.aload_n 0, 1) := by decide +kernel
theorem dX5_round_1 : decode cX5_round 1 = .ok (.iload_n 1, 1) := by decide +kernel
theorem dX5_round_2 : decode cX5_round 2 = .ok (.invokevirtual 144, 3) := by decide +kernel
theorem dX5_round_5 : decode cX5_round 5 = .ok (.ifCond .eq 6, 3) := by decide +kernel
theorem dX5_round_8 : decode cX5_round 8 = .ok (.ldc 72, 2) := by decide +kernel
theorem dX5_round_10 : decode cX5_round 10 = .ok (.ireturn, 1) := by decide +kernel
theorem dX5_round_11 : decode cX5_round 11 = .ok (.aload_n 0, 1) := by decide +kernel
theorem dX5_round_12 : decode cX5_round 12 = .ok (.iload_n 1, 1) := by decide +kernel
theorem dX5_round_13 : decode cX5_round 13 = .ok (.invokevirtual 148, 3) := by decide +kernel
theorem dX5_round_16 : decode cX5_round 16 = .ok (.istore_n 3, 1) := by decide +kernel
theorem dX5_round_17 : decode cX5_round 17 = .ok (.iload_n 2, 1) := by decide +kernel
theorem dX5_round_18 : decode cX5_round 18 = .ok (.tableswitch 70 0 2 #[26, 46, 68], 26) := by decide +kernel
theorem dX5_round_44 : decode cX5_round 44 = .ok (.aload_n 0, 1) := by decide +kernel
theorem dX5_round_45 : decode cX5_round 45 = .ok (.getfield 18, 3) := by decide +kernel
theorem dX5_round_48 : decode cX5_round 48 = .ok (.iload_n 1, 1) := by decide +kernel
theorem dX5_round_49 : decode cX5_round 49 = .ok (.aload_n 0, 1) := by decide +kernel
theorem dX5_round_50 : decode cX5_round 50 = .ok (.getfield 11, 3) := by decide +kernel
theorem dX5_round_53 : decode cX5_round 53 = .ok (.invokevirtual 151, 3) := by decide +kernel
theorem dX5_round_56 : decode cX5_round 56 = .ok (.aload_n 0, 1) := by decide +kernel
theorem dX5_round_57 : decode cX5_round 57 = .ok (.getfield 18, 3) := by decide +kernel
theorem dX5_round_60 : decode cX5_round 60 = .ok (.invokevirtual 155, 3) := by decide +kernel
theorem dX5_round_63 : decode cX5_round 63 = .ok (.ireturn, 1) := by decide +kernel
theorem dX5_round_64 : decode cX5_round 64 = .ok (.iload_n 3, 1) := by decide +kernel
theorem dX5_round_65 : decode cX5_round 65 = .ok (.aload_n 0, 1) := by decide +kernel
theorem dX5_round_66 : decode cX5_round 66 = .ok (.getfield 49, 3) := by decide +kernel
theorem dX5_round_69 : decode cX5_round 69 = .ok (.if_icmp .gt 15, 3) := by decide +kernel
theorem dX5_round_72 : decode cX5_round 72 = .ok (.iload_n 3, 1) := by decide +kernel
theorem dX5_round_73 : decode cX5_round 73 = .ok (.aload_n 0, 1) := by decide +kernel
theorem dX5_round_74 : decode cX5_round 74 = .ok (.getfield 55, 3) := by decide +kernel
theorem dX5_round_77 : decode cX5_round 77 = .ok (.if_icmp .gt 7, 3) := by decide +kernel
theorem dX5_round_80 : decode cX5_round 80 = .ok (.iconst 1, 1) := by decide +kernel
theorem dX5_round_81 : decode cX5_round 81 = .ok (.goto 4, 3) := by decide +kernel
theorem dX5_round_84 : decode cX5_round 84 = .ok (.iconst 0, 1) := by decide +kernel
theorem dX5_round_85 : decode cX5_round 85 = .ok (.ireturn, 1) := by decide +kernel
theorem dX5_round_86 : decode cX5_round 86 = .ok (.iload_n 3, 1) := by decide +kernel
theorem dX5_round_87 : decode cX5_round 87 = .ok (.ireturn, 1) := by decide +kernel
theorem dX5_round_88 : decode cX5_round 88 = .ok (.ldc 72, 2) := by decide +kernel
theorem dX5_round_90 : decode cX5_round 90 = .ok (.ireturn, 1) := by decide +kernel
theorem dX5_stop_0 : decode cX5_stop 0 = .ok (.aload_n 0, 1) := by decide +kernel
theorem dX5_stop_1 : decode cX5_stop 1 = .ok (.iload_n 1, 1) := by decide +kernel
theorem dX5_stop_2 : decode cX5_stop 2 = .ok (.invokevirtual 144, 3) := by decide +kernel
theorem dX5_stop_5 : decode cX5_stop 5 = .ok (.ifCond .eq 6, 3) := by decide +kernel
theorem dX5_stop_8 : decode cX5_stop 8 = .ok (.ldc 72, 2) := by decide +kernel
theorem dX5_stop_10 : decode cX5_stop 10 = .ok (.ireturn, 1) := by decide +kernel
theorem dX5_stop_11 : decode cX5_stop 11 = .ok (.aload_n 0, 1) := by decide +kernel
theorem dX5_stop_12 : decode cX5_stop 12 = .ok (.getfield 18, 3) := by decide +kernel
theorem dX5_stop_15 : decode cX5_stop 15 = .ok (.iload_n 1, 1) := by decide +kernel
theorem dX5_stop_16 : decode cX5_stop 16 = .ok (.aload_n 0, 1) := by decide +kernel
theorem dX5_stop_17 : decode cX5_stop 17 = .ok (.getfield 11, 3) := by decide +kernel
theorem dX5_stop_20 : decode cX5_stop 20 = .ok (.invokevirtual 151, 3) := by decide +kernel
theorem dX5_stop_23 : decode cX5_stop 23 = .ok (.aload_n 0, 1) := by decide +kernel
theorem dX5_stop_24 : decode cX5_stop 24 = .ok (.getfield 18, 3) := by decide +kernel
theorem dX5_stop_27 : decode cX5_stop 27 = .ok (.iload_n 2, 1) := by decide +kernel
theorem dX5_stop_28 : decode cX5_stop 28 = .ok (.invokevirtual 158, 3) := by decide +kernel
theorem dX5_stop_31 : decode cX5_stop 31 = .ok (.ireturn, 1) := by decide +kernel
theorem dX5_fill_0 : decode cX5_fill 0 = .ok (.aload_n 0, 1) := by decide +kernel
theorem dX5_fill_1 : decode cX5_fill 1 = .ok (.iload_n 1, 1) := by decide +kernel
theorem dX5_fill_2 : decode cX5_fill 2 = .ok (.invokevirtual 77, 3) := by decide +kernel
theorem dX5_fill_5 : decode cX5_fill 5 = .ok (.astore_n 3, 1) := by decide +kernel
theorem dX5_fill_6 : decode cX5_fill 6 = .ok (.aload_n 3, 1) := by decide +kernel
theorem dX5_fill_7 : decode cX5_fill 7 = .ok (.ifnull 15, 3) := by decide +kernel
theorem dX5_fill_10 : decode cX5_fill 10 = .ok (.iload_n 2, 1) := by decide +kernel
theorem dX5_fill_11 : decode cX5_fill 11 = .ok (.iconst 0, 1) := by decide +kernel
theorem dX5_fill_12 : decode cX5_fill 12 = .ok (.aload_n 3, 1) := by decide +kernel
theorem dX5_fill_13 : decode cX5_fill 13 = .ok (.getfield 161, 3) := by decide +kernel
theorem dX5_fill_16 : decode cX5_fill 16 = .ok (.invokestatic 68, 3) := by decide +kernel
theorem dX5_fill_19 : decode cX5_fill 19 = .ok (.ifCond .eq 6, 3) := by decide +kernel
theorem dX5_fill_22 : decode cX5_fill 22 = .ok (.ldc 72, 2) := by decide +kernel
theorem dX5_fill_24 : decode cX5_fill 24 = .ok (.ireturn, 1) := by decide +kernel
theorem dX5_fill_25 : decode cX5_fill 25 = .ok (.aload_n 0, 1) := by decide +kernel
theorem dX5_fill_26 : decode cX5_fill 26 = .ok (.getfield 55, 3) := by decide +kernel
theorem dX5_fill_29 : decode cX5_fill 29 = .ok (.iload_n 2, 1) := by decide +kernel
theorem dX5_fill_30 : decode cX5_fill 30 = .ok (.if_icmp .ge 6, 3) := by decide +kernel
theorem dX5_fill_33 : decode cX5_fill 33 = .ok (.ldc 87, 2) := by decide +kernel
theorem dX5_fill_35 : decode cX5_fill 35 = .ok (.ireturn, 1) := by decide +kernel
theorem dX5_fill_36 : decode cX5_fill 36 = .ok (.aload_n 3, 1) := by decide +kernel
theorem dX5_fill_37 : decode cX5_fill 37 = .ok (.getfield 164, 3) := by decide +kernel
theorem dX5_fill_40 : decode cX5_fill 40 = .ok (.iload_n 2, 1) := by decide +kernel
theorem dX5_fill_41 : decode cX5_fill 41 = .ok (.aload_n 0, 1) := by decide +kernel
theorem dX5_fill_42 : decode cX5_fill 42 = .ok (.getfield 52, 3) := by decide +kernel
theorem dX5_fill_45 : decode cX5_fill 45 = .ok (.invokevirtual 168, 3) := by decide +kernel
theorem dX5_fill_48 : decode cX5_fill 48 = .ok (.istore 4, 2) := by decide +kernel
theorem dX5_fill_50 : decode cX5_fill 50 = .ok (.aload_n 3, 1) := by decide +kernel
theorem dX5_fill_51 : decode cX5_fill 51 = .ok (.getfield 164, 3) := by decide +kernel
theorem dX5_fill_54 : decode cX5_fill 54 = .ok (.iload_n 2, 1) := by decide +kernel
theorem dX5_fill_55 : decode cX5_fill 55 = .ok (.invokevirtual 174, 3) := by decide +kernel
theorem dX5_fill_58 : decode cX5_fill 58 = .ok (.aload_n 3, 1) := by decide +kernel
theorem dX5_fill_59 : decode cX5_fill 59 = .ok (.iload_n 2, 1) := by decide +kernel
theorem dX5_fill_60 : decode cX5_fill 60 = .ok (.invokevirtual 177, 3) := by decide +kernel
theorem dX5_fill_63 : decode cX5_fill 63 = .ok (.aload_n 0, 1) := by decide +kernel
theorem dX5_fill_64 : decode cX5_fill 64 = .ok (.dup, 1) := by decide +kernel
theorem dX5_fill_65 : decode cX5_fill 65 = .ok (.getfield 55, 3) := by decide +kernel
theorem dX5_fill_68 : decode cX5_fill 68 = .ok (.iload_n 2, 1) := by decide +kernel
theorem dX5_fill_69 : decode cX5_fill 69 = .ok (.isub, 1) := by decide +kernel
theorem dX5_fill_70 : decode cX5_fill 70 = .ok (.putfield 55, 3) := by decide +kernel
theorem dX5_fill_73 : decode cX5_fill 73 = .ok (.aload_n 0, 1) := by decide +kernel
theorem dX5_fill_74 : decode cX5_fill 74 = .ok (.dup, 1) := by decide +kernel
theorem dX5_fill_75 : decode cX5_fill 75 = .ok (.getfield 62, 3) := by decide +kernel
theorem dX5_fill_78 : decode cX5_fill 78 = .ok (.iload_n 2, 1) := by decide +kernel
theorem dX5_fill_79 : decode cX5_fill 79 = .ok (.i2l, 1) := by decide +kernel
theorem dX5_fill_80 : decode cX5_fill 80 = .ok (.ladd, 1) := by decide +kernel
theorem dX5_fill_81 : decode cX5_fill 81 = .ok (.putfield 62, 3) := by decide +kernel
theorem dX5_fill_84 : decode cX5_fill 84 = .ok (.aload_n 0, 1) := by decide +kernel
theorem dX5_fill_85 : decode cX5_fill 85 = .ok (.dup, 1) := by decide +kernel
theorem dX5_fill_86 : decode cX5_fill 86 = .ok (.getfield 65, 3) := by decide +kernel
theorem dX5_fill_89 : decode cX5_fill 89 = .ok (.iload 4, 2) := by decide +kernel
theorem dX5_fill_91 : decode cX5_fill 91 = .ok (.i2l, 1) := by decide +kernel
theorem dX5_fill_92 : decode cX5_fill 92 = .ok (.ladd, 1) := by decide +kernel
theorem dX5_fill_93 : decode cX5_fill 93 = .ok (.putfield 65, 3) := by decide +kernel
theorem dX5_fill_96 : decode cX5_fill 96 = .ok (.iload 4, 2) := by decide +kernel
theorem dX5_fill_98 : decode cX5_fill 98 = .ok (.ireturn, 1) := by decide +kernel
theorem dX5_price_0 : decode cX5_price 0 = .ok (.iload_n 1, 1) := by decide +kernel
theorem dX5_price_1 : decode cX5_price 1 = .ok (.iconst 0, 1) := by decide +kernel
theorem dX5_price_2 : decode cX5_price 2 = .ok (.sipush 1000, 3) := by decide +kernel
theorem dX5_price_5 : decode cX5_price 5 = .ok (.invokestatic 68, 3) := by decide +kernel
theorem dX5_price_8 : decode cX5_price 8 = .ok (.ifCond .eq 6, 3) := by decide +kernel
theorem dX5_price_11 : decode cX5_price 11 = .ok (.ldc 72, 2) := by decide +kernel
theorem dX5_price_13 : decode cX5_price 13 = .ok (.ireturn, 1) := by decide +kernel
theorem dX5_price_14 : decode cX5_price 14 = .ok (.aload_n 0, 1) := by decide +kernel
theorem dX5_price_15 : decode cX5_price 15 = .ok (.getfield 52, 3) := by decide +kernel
theorem dX5_price_18 : decode cX5_price 18 = .ok (.istore_n 2, 1) := by decide +kernel
theorem dX5_price_19 : decode cX5_price 19 = .ok (.aload_n 0, 1) := by decide +kernel
theorem dX5_price_20 : decode cX5_price 20 = .ok (.iload_n 1, 1) := by decide +kernel
theorem dX5_price_21 : decode cX5_price 21 = .ok (.putfield 52, 3) := by decide +kernel
theorem dX5_price_24 : decode cX5_price 24 = .ok (.iload_n 2, 1) := by decide +kernel
theorem dX5_price_25 : decode cX5_price 25 = .ok (.ireturn, 1) := by decide +kernel
theorem dX5_feed_0 : decode cX5_feed 0 = .ok (.iload_n 3, 1) := by decide +kernel
theorem dX5_feed_1 : decode cX5_feed 1 = .ok (.iconst 1, 1) := by decide +kernel
theorem dX5_feed_2 : decode cX5_feed 2 = .ok (.bipush 8, 2) := by decide +kernel
theorem dX5_feed_4 : decode cX5_feed 4 = .ok (.invokestatic 68, 3) := by decide +kernel
theorem dX5_feed_7 : decode cX5_feed 7 = .ok (.ifCond .eq 6, 3) := by decide +kernel
theorem dX5_feed_10 : decode cX5_feed 10 = .ok (.ldc 72, 2) := by decide +kernel
theorem dX5_feed_12 : decode cX5_feed 12 = .ok (.ireturn, 1) := by decide +kernel
theorem dX5_feed_13 : decode cX5_feed 13 = .ok (.aload_n 0, 1) := by decide +kernel
theorem dX5_feed_14 : decode cX5_feed 14 = .ok (.getfield 25, 3) := by decide +kernel
theorem dX5_feed_17 : decode cX5_feed 17 = .ok (.lload_n 1, 1) := by decide +kernel
theorem dX5_feed_18 : decode cX5_feed 18 = .ok (.iload_n 3, 1) := by decide +kernel
theorem dX5_feed_19 : decode cX5_feed 19 = .ok (.invokevirtual 180, 3) := by decide +kernel
theorem dX5_feed_22 : decode cX5_feed 22 = .ok (.ireturn, 1) := by decide +kernel
theorem dX5_plans_0 : decode cX5_plans 0 = .ok (.aload_n 0, 1) := by decide +kernel
theorem dX5_plans_1 : decode cX5_plans 1 = .ok (.getfield 25, 3) := by decide +kernel
theorem dX5_plans_4 : decode cX5_plans 4 = .ok (.aload_n 0, 1) := by decide +kernel
theorem dX5_plans_5 : decode cX5_plans 5 = .ok (.getfield 11, 3) := by decide +kernel
theorem dX5_plans_8 : decode cX5_plans 8 = .ok (.invokevirtual 184, 3) := by decide +kernel
theorem dX5_plans_11 : decode cX5_plans 11 = .ok (.ireturn, 1) := by decide +kernel
theorem dX5_fault_0 : decode cX5_fault 0 = .ok (.aload_n 0, 1) := by decide +kernel
theorem dX5_fault_1 : decode cX5_fault 1 = .ok (.getfield 25, 3) := by decide +kernel
theorem dX5_fault_4 : decode cX5_fault 4 = .ok (.getfield 188, 3) := by decide +kernel
theorem dX5_fault_7 : decode cX5_fault 7 = .ok (.ireturn, 1) := by decide +kernel
theorem dX5_quote_0 : decode cX5_quote 0 = .ok (.aload_n 0, 1) := by decide +kernel
theorem dX5_quote_1 : decode cX5_quote 1 = .ok (.iload_n 1, 1) := by decide +kernel
theorem dX5_quote_2 : decode cX5_quote 2 = .ok (.invokevirtual 77, 3) := by decide +kernel
theorem dX5_quote_5 : decode cX5_quote 5 = .ok (.astore_n 3, 1) := by decide +kernel
theorem dX5_quote_6 : decode cX5_quote 6 = .ok (.aload_n 3, 1) := by decide +kernel
theorem dX5_quote_7 : decode cX5_quote 7 = .ok (.ifnull 14, 3) := by decide +kernel
theorem dX5_quote_10 : decode cX5_quote 10 = .ok (.iload_n 2, 1) := by decide +kernel
theorem dX5_quote_11 : decode cX5_quote 11 = .ok (.iconst 0, 1) := by decide +kernel
theorem dX5_quote_12 : decode cX5_quote 12 = .ok (.sipush 5000, 3) := by decide +kernel
theorem dX5_quote_15 : decode cX5_quote 15 = .ok (.invokestatic 68, 3) := by decide +kernel
theorem dX5_quote_18 : decode cX5_quote 18 = .ok (.ifCond .eq 6, 3) := by decide +kernel
theorem dX5_quote_21 : decode cX5_quote 21 = .ok (.ldc 72, 2) := by decide +kernel
theorem dX5_quote_23 : decode cX5_quote 23 = .ok (.ireturn, 1) := by decide +kernel
theorem dX5_quote_24 : decode cX5_quote 24 = .ok (.aload_n 3, 1) := by decide +kernel
theorem dX5_quote_25 : decode cX5_quote 25 = .ok (.getfield 164, 3) := by decide +kernel
theorem dX5_quote_28 : decode cX5_quote 28 = .ok (.iload_n 2, 1) := by decide +kernel
theorem dX5_quote_29 : decode cX5_quote 29 = .ok (.aload_n 0, 1) := by decide +kernel
theorem dX5_quote_30 : decode cX5_quote 30 = .ok (.getfield 52, 3) := by decide +kernel
theorem dX5_quote_33 : decode cX5_quote 33 = .ok (.invokevirtual 168, 3) := by decide +kernel
theorem dX5_quote_36 : decode cX5_quote 36 = .ok (.ireturn, 1) := by decide +kernel
theorem dX5_kind_0 : decode cX5_kind 0 = .ok (.aload_n 0, 1) := by decide +kernel
theorem dX5_kind_1 : decode cX5_kind 1 = .ok (.iload_n 1, 1) := by decide +kernel
theorem dX5_kind_2 : decode cX5_kind 2 = .ok (.invokevirtual 77, 3) := by decide +kernel
theorem dX5_kind_5 : decode cX5_kind 5 = .ok (.astore_n 2, 1) := by decide +kernel
theorem dX5_kind_6 : decode cX5_kind 6 = .ok (.aload_n 2, 1) := by decide +kernel
theorem dX5_kind_7 : decode cX5_kind 7 = .ok (.ifnonnull 8, 3) := by decide +kernel
theorem dX5_kind_10 : decode cX5_kind 10 = .ok (.ldc 72, 2) := by decide +kernel
theorem dX5_kind_12 : decode cX5_kind 12 = .ok (.goto 7, 3) := by decide +kernel
theorem dX5_kind_15 : decode cX5_kind 15 = .ok (.aload_n 2, 1) := by decide +kernel
theorem dX5_kind_16 : decode cX5_kind 16 = .ok (.invokevirtual 191, 3) := by decide +kernel
theorem dX5_kind_19 : decode cX5_kind 19 = .ok (.ireturn, 1) := by decide +kernel
theorem dX5_as_0 : decode cX5_as 0 = .ok (.aload_n 0, 1) := by decide +kernel
theorem dX5_as_1 : decode cX5_as 1 = .ok (.iload_n 1, 1) := by decide +kernel
theorem dX5_as_2 : decode cX5_as 2 = .ok (.invokevirtual 77, 3) := by decide +kernel
theorem dX5_as_5 : decode cX5_as 5 = .ok (.astore_n 3, 1) := by decide +kernel
theorem dX5_as_6 : decode cX5_as 6 = .ok (.aload_n 3, 1) := by decide +kernel
theorem dX5_as_7 : decode cX5_as 7 = .ok (.ifnull 12, 3) := by decide +kernel
theorem dX5_as_10 : decode cX5_as 10 = .ok (.iload_n 2, 1) := by decide +kernel
theorem dX5_as_11 : decode cX5_as 11 = .ok (.iconst 0, 1) := by decide +kernel
theorem dX5_as_12 : decode cX5_as 12 = .ok (.iconst 3, 1) := by decide +kernel
theorem dX5_as_13 : decode cX5_as 13 = .ok (.invokestatic 68, 3) := by decide +kernel
theorem dX5_as_16 : decode cX5_as 16 = .ok (.ifCond .eq 6, 3) := by decide +kernel
theorem dX5_as_19 : decode cX5_as 19 = .ok (.ldc 72, 2) := by decide +kernel
theorem dX5_as_21 : decode cX5_as 21 = .ok (.ireturn, 1) := by decide +kernel
theorem dX5_as_22 : decode cX5_as 22 = .ok (.aload_n 3, 1) := by decide +kernel
theorem dX5_as_23 : decode cX5_as 23 = .ok (.iload_n 2, 1) := by decide +kernel
theorem dX5_as_24 : decode cX5_as 24 = .ok (.invokevirtual 194, 3) := by decide +kernel
theorem dX5_as_27 : decode cX5_as 27 = .ok (.ifCond .eq 10, 3) := by decide +kernel
theorem dX5_as_30 : decode cX5_as 30 = .ok (.aload_n 3, 1) := by decide +kernel
theorem dX5_as_31 : decode cX5_as 31 = .ok (.getfield 161, 3) := by decide +kernel
theorem dX5_as_34 : decode cX5_as 34 = .ok (.goto 5, 3) := by decide +kernel
theorem dX5_as_37 : decode cX5_as 37 = .ok (.ldc 197, 2) := by decide +kernel
theorem dX5_as_39 : decode cX5_as 39 = .ok (.ireturn, 1) := by decide +kernel
theorem dX5_ask_0 : decode cX5_ask 0 = .ok (.aload_n 0, 1) := by decide +kernel
theorem dX5_ask_1 : decode cX5_ask 1 = .ok (.iload_n 1, 1) := by decide +kernel
theorem dX5_ask_2 : decode cX5_ask 2 = .ok (.invokevirtual 77, 3) := by decide +kernel
theorem dX5_ask_5 : decode cX5_ask 5 = .ok (.astore_n 3, 1) := by decide +kernel
theorem dX5_ask_6 : decode cX5_ask 6 = .ok (.aload_n 3, 1) := by decide +kernel
theorem dX5_ask_7 : decode cX5_ask 7 = .ok (.ifnull 12, 3) := by decide +kernel
theorem dX5_ask_10 : decode cX5_ask 10 = .ok (.iload_n 2, 1) := by decide +kernel
theorem dX5_ask_11 : decode cX5_ask 11 = .ok (.iconst 0, 1) := by decide +kernel
theorem dX5_ask_12 : decode cX5_ask 12 = .ok (.iconst 1, 1) := by decide +kernel
theorem dX5_ask_13 : decode cX5_ask 13 = .ok (.invokestatic 68, 3) := by decide +kernel
theorem dX5_ask_16 : decode cX5_ask 16 = .ok (.ifCond .eq 6, 3) := by decide +kernel
theorem dX5_ask_19 : decode cX5_ask 19 = .ok (.ldc 72, 2) := by decide +kernel
theorem dX5_ask_21 : decode cX5_ask 21 = .ok (.ireturn, 1) := by decide +kernel
theorem dX5_ask_22 : decode cX5_ask 22 = .ok (.aload_n 0, 1) := by decide +kernel
theorem dX5_ask_23 : decode cX5_ask 23 = .ok (.getfield 32, 3) := by decide +kernel
theorem dX5_ask_26 : decode cX5_ask 26 = .ok (.invokevirtual 198, 3) := by decide +kernel
theorem dX5_ask_29 : decode cX5_ask 29 = .ok (.iload_n 2, 1) := by decide +kernel
theorem dX5_ask_30 : decode cX5_ask 30 = .ok (.ifCond .ne 14, 3) := by decide +kernel
theorem dX5_ask_33 : decode cX5_ask 33 = .ok (.aload_n 0, 1) := by decide +kernel
theorem dX5_ask_34 : decode cX5_ask 34 = .ok (.getfield 32, 3) := by decide +kernel
theorem dX5_ask_37 : decode cX5_ask 37 = .ok (.aload_n 3, 1) := by decide +kernel
theorem dX5_ask_38 : decode cX5_ask 38 = .ok (.invokevirtual 201, 3) := by decide +kernel
theorem dX5_ask_41 : decode cX5_ask 41 = .ok (.goto 11, 3) := by decide +kernel
theorem dX5_ask_44 : decode cX5_ask 44 = .ok (.aload_n 0, 1) := by decide +kernel
theorem dX5_ask_45 : decode cX5_ask 45 = .ok (.getfield 32, 3) := by decide +kernel
theorem dX5_ask_48 : decode cX5_ask 48 = .ok (.aload_n 3, 1) := by decide +kernel
theorem dX5_ask_49 : decode cX5_ask 49 = .ok (.invokevirtual 205, 3) := by decide +kernel
theorem dX5_ask_52 : decode cX5_ask 52 = .ok (.ireturn, 1) := by decide +kernel
theorem dX5_trace_0 : decode cX5_trace 0 = .ok (.aload_n 0, 1) := by decide +kernel
theorem dX5_trace_1 : decode cX5_trace 1 = .ok (.getfield 32, 3) := by decide +kernel
theorem dX5_trace_4 : decode cX5_trace 4 = .ok (.iload_n 1, 1) := by decide +kernel
theorem dX5_trace_5 : decode cX5_trace 5 = .ok (.invokevirtual 208, 3) := by decide +kernel
theorem dX5_trace_8 : decode cX5_trace 8 = .ok (.ireturn, 1) := by decide +kernel
theorem dX5_count_0 : decode cX5_count 0 = .ok (.iload_n 1, 1) := by decide +kernel
theorem dX5_count_1 : decode cX5_count 1 = .ok (.tableswitch 95 0 7 #[47, 53, 59, 65, 71, 76, 81, 86], 47) := by decide +kernel
theorem dX5_count_48 : decode cX5_count 48 = .ok (.aload_n 0, 1) := by decide +kernel
theorem dX5_count_49 : decode cX5_count 49 = .ok (.getfield 36, 3) := by decide +kernel
theorem dX5_count_52 : decode cX5_count 52 = .ok (.i2l, 1) := by decide +kernel
theorem dX5_count_53 : decode cX5_count 53 = .ok (.lreturn, 1) := by decide +kernel
theorem dX5_count_54 : decode cX5_count 54 = .ok (.aload_n 0, 1) := by decide +kernel
theorem dX5_count_55 : decode cX5_count 55 = .ok (.getfield 40, 3) := by decide +kernel
theorem dX5_count_58 : decode cX5_count 58 = .ok (.i2l, 1) := by decide +kernel
theorem dX5_count_59 : decode cX5_count 59 = .ok (.lreturn, 1) := by decide +kernel
theorem dX5_count_60 : decode cX5_count 60 = .ok (.aload_n 0, 1) := by decide +kernel
theorem dX5_count_61 : decode cX5_count 61 = .ok (.invokevirtual 108, 3) := by decide +kernel
theorem dX5_count_64 : decode cX5_count 64 = .ok (.i2l, 1) := by decide +kernel
theorem dX5_count_65 : decode cX5_count 65 = .ok (.lreturn, 1) := by decide +kernel
theorem dX5_count_66 : decode cX5_count 66 = .ok (.aload_n 0, 1) := by decide +kernel
theorem dX5_count_67 : decode cX5_count 67 = .ok (.getfield 55, 3) := by decide +kernel
theorem dX5_count_70 : decode cX5_count 70 = .ok (.i2l, 1) := by decide +kernel
theorem dX5_count_71 : decode cX5_count 71 = .ok (.lreturn, 1) := by decide +kernel
theorem dX5_count_72 : decode cX5_count 72 = .ok (.aload_n 0, 1) := by decide +kernel
theorem dX5_count_73 : decode cX5_count 73 = .ok (.getfield 58, 3) := by decide +kernel
theorem dX5_count_76 : decode cX5_count 76 = .ok (.lreturn, 1) := by decide +kernel
theorem dX5_count_77 : decode cX5_count 77 = .ok (.aload_n 0, 1) := by decide +kernel
theorem dX5_count_78 : decode cX5_count 78 = .ok (.getfield 62, 3) := by decide +kernel
theorem dX5_count_81 : decode cX5_count 81 = .ok (.lreturn, 1) := by decide +kernel
theorem dX5_count_82 : decode cX5_count 82 = .ok (.aload_n 0, 1) := by decide +kernel
theorem dX5_count_83 : decode cX5_count 83 = .ok (.getfield 65, 3) := by decide +kernel
theorem dX5_count_86 : decode cX5_count 86 = .ok (.lreturn, 1) := by decide +kernel
theorem dX5_count_87 : decode cX5_count 87 = .ok (.aload_n 0, 1) := by decide +kernel
theorem dX5_count_88 : decode cX5_count 88 = .ok (.getfield 25, 3) := by decide +kernel
theorem dX5_count_91 : decode cX5_count 91 = .ok (.getfield 211, 3) := by decide +kernel
theorem dX5_count_94 : decode cX5_count 94 = .ok (.i2l, 1) := by decide +kernel
theorem dX5_count_95 : decode cX5_count 95 = .ok (.lreturn, 1) := by decide +kernel
theorem dX5_count_96 : decode cX5_count 96 = .ok (.ldc2_w 214, 3) := by decide +kernel
theorem dX5_count_99 : decode cX5_count 99 = .ok (.lreturn, 1) := by decide +kernel
theorem dX5_isOutside_0 : decode cX5_isOutside 0 = .ok (.iload_n 0, 1) := by decide +kernel
theorem dX5_isOutside_1 : decode cX5_isOutside 1 = .ok (.iload_n 1, 1) := by decide +kernel
theorem dX5_isOutside_2 : decode cX5_isOutside 2 = .ok (.if_icmp .lt 8, 3) := by decide +kernel
theorem dX5_isOutside_5 : decode cX5_isOutside 5 = .ok (.iload_n 0, 1) := by decide +kernel
theorem dX5_isOutside_6 : decode cX5_isOutside 6 = .ok (.iload_n 2, 1) := by decide +kernel
theorem dX5_isOutside_7 : decode cX5_isOutside 7 = .ok (.if_icmp .le 7, 3) := by decide +kernel
theorem dX5_isOutside_10 : decode cX5_isOutside 10 = .ok (.iconst 1, 1) := by decide +kernel
theorem dX5_isOutside_11 : decode cX5_isOutside 11 = .ok (.goto 4, 3) := by decide +kernel
theorem dX5_isOutside_14 : decode cX5_isOutside 14 = .ok (.iconst 0, 1) := by decide +kernel
theorem dX5_isOutside_15 : decode cX5_isOutside 15 = .ok (.ireturn, 1) := by decide +kernel
theorem dX5_houseIn_0 : decode cX5_houseIn 0 = .ok (.aload_n 0, 1) := by decide +kernel
theorem dX5_houseIn_1 : decode cX5_houseIn 1 = .ok (.ifnull 13, 3) := by decide +kernel
theorem dX5_houseIn_4 : decode cX5_houseIn 4 = .ok (.iload_n 1, 1) := by decide +kernel
theorem dX5_houseIn_5 : decode cX5_houseIn 5 = .ok (.ifCond .lt 9, 3) := by decide +kernel
theorem dX5_houseIn_8 : decode cX5_houseIn 8 = .ok (.iload_n 1, 1) := by decide +kernel
theorem dX5_houseIn_9 : decode cX5_houseIn 9 = .ok (.aload_n 0, 1) := by decide +kernel
theorem dX5_houseIn_10 : decode cX5_houseIn 10 = .ok (.arraylength, 1) := by decide +kernel
theorem dX5_houseIn_11 : decode cX5_houseIn 11 = .ok (.if_icmp .lt 7, 3) := by decide +kernel
theorem dX5_houseIn_14 : decode cX5_houseIn 14 = .ok (.aconst_null, 1) := by decide +kernel
theorem dX5_houseIn_15 : decode cX5_houseIn 15 = .ok (.goto 6, 3) := by decide +kernel
theorem dX5_houseIn_18 : decode cX5_houseIn 18 = .ok (.aload_n 0, 1) := by decide +kernel
theorem dX5_houseIn_19 : decode cX5_houseIn 19 = .ok (.iload_n 1, 1) := by decide +kernel
theorem dX5_houseIn_20 : decode cX5_houseIn 20 = .ok (.aaload, 1) := by decide +kernel
theorem dX5_houseIn_21 : decode cX5_houseIn 21 = .ok (.areturn, 1) := by decide +kernel
theorem dX5_houseAt_0 : decode cX5_houseAt 0 = .ok (.aload_n 0, 1) := by decide +kernel
theorem dX5_houseAt_1 : decode cX5_houseAt 1 = .ok (.getfield 11, 3) := by decide +kernel
theorem dX5_houseAt_4 : decode cX5_houseAt 4 = .ok (.iload_n 1, 1) := by decide +kernel
theorem dX5_houseAt_5 : decode cX5_houseAt 5 = .ok (.invokestatic 216, 3) := by decide +kernel
theorem dX5_houseAt_8 : decode cX5_houseAt 8 = .ok (.areturn, 1) := by decide +kernel
theorem dX5_countDue_0 : decode cX5_countDue 0 = .ok (.iconst 0, 1) := by decide +kernel
theorem dX5_countDue_1 : decode cX5_countDue 1 = .ok (.istore_n 1, 1) := by decide +kernel
theorem dX5_countDue_2 : decode cX5_countDue 2 = .ok (.aload_n 0, 1) := by decide +kernel
theorem dX5_countDue_3 : decode cX5_countDue 3 = .ok (.getfield 11, 3) := by decide +kernel
theorem dX5_countDue_6 : decode cX5_countDue 6 = .ok (.astore_n 2, 1) := by decide +kernel
theorem dX5_countDue_7 : decode cX5_countDue 7 = .ok (.aload_n 2, 1) := by decide +kernel
theorem dX5_countDue_8 : decode cX5_countDue 8 = .ok (.arraylength, 1) := by decide +kernel
theorem dX5_countDue_9 : decode cX5_countDue 9 = .ok (.istore_n 3, 1) := by decide +kernel
theorem dX5_countDue_10 : decode cX5_countDue 10 = .ok (.iconst 0, 1) := by decide +kernel
theorem dX5_countDue_11 : decode cX5_countDue 11 = .ok (.istore 4, 2) := by decide +kernel
theorem dX5_countDue_13 : decode cX5_countDue 13 = .ok (.iload 4, 2) := by decide +kernel
theorem dX5_countDue_15 : decode cX5_countDue 15 = .ok (.iload_n 3, 1) := by decide +kernel
theorem dX5_countDue_16 : decode cX5_countDue 16 = .ok (.if_icmp .ge 39, 3) := by decide +kernel
theorem dX5_countDue_19 : decode cX5_countDue 19 = .ok (.aload_n 2, 1) := by decide +kernel
theorem dX5_countDue_20 : decode cX5_countDue 20 = .ok (.iload 4, 2) := by decide +kernel
theorem dX5_countDue_22 : decode cX5_countDue 22 = .ok (.aaload, 1) := by decide +kernel
theorem dX5_countDue_23 : decode cX5_countDue 23 = .ok (.astore 5, 2) := by decide +kernel
theorem dX5_countDue_25 : decode cX5_countDue 25 = .ok (.aload 5, 2) := by decide +kernel
theorem dX5_countDue_27 : decode cX5_countDue 27 = .ok (.ifnull 22, 3) := by decide +kernel
theorem dX5_countDue_30 : decode cX5_countDue 30 = .ok (.aload 5, 2) := by decide +kernel
theorem dX5_countDue_32 : decode cX5_countDue 32 = .ok (.aload_n 0, 1) := by decide +kernel
theorem dX5_countDue_33 : decode cX5_countDue 33 = .ok (.getfield 43, 3) := by decide +kernel
theorem dX5_countDue_36 : decode cX5_countDue 36 = .ok (.aload_n 0, 1) := by decide +kernel
theorem dX5_countDue_37 : decode cX5_countDue 37 = .ok (.getfield 46, 3) := by decide +kernel
theorem dX5_countDue_40 : decode cX5_countDue 40 = .ok (.invokevirtual 118, 3) := by decide +kernel
theorem dX5_countDue_43 : decode cX5_countDue 43 = .ok (.ifCond .eq 6, 3) := by decide +kernel
theorem dX5_countDue_46 : decode cX5_countDue 46 = .ok (.iinc 1 1, 3) := by decide +kernel
theorem dX5_countDue_49 : decode cX5_countDue 49 = .ok (.iinc 4 1, 3) := by decide +kernel
theorem dX5_countDue_52 : decode cX5_countDue 52 = .ok (.goto (-39), 3) := by decide +kernel
theorem dX5_countDue_55 : decode cX5_countDue 55 = .ok (.iload_n 1, 1) := by decide +kernel
theorem dX5_countDue_56 : decode cX5_countDue 56 = .ok (.ireturn, 1) := by decide +kernel
theorem dX5_mostUrgent_0 : decode cX5_mostUrgent 0 = .ok (.ldc 220, 2) := by decide +kernel
theorem dX5_mostUrgent_2 : decode cX5_mostUrgent 2 = .ok (.istore_n 2, 1) := by decide +kernel
theorem dX5_mostUrgent_3 : decode cX5_mostUrgent 3 = .ok (.iconst 0, 1) := by decide +kernel
theorem dX5_mostUrgent_4 : decode cX5_mostUrgent 4 = .ok (.istore_n 3, 1) := by decide +kernel
theorem dX5_mostUrgent_5 : decode cX5_mostUrgent 5 = .ok (.iconst 0, 1) := by decide +kernel
theorem dX5_mostUrgent_6 : decode cX5_mostUrgent 6 = .ok (.istore 4, 2) := by decide +kernel
theorem dX5_mostUrgent_8 : decode cX5_mostUrgent 8 = .ok (.iload 4, 2) := by decide +kernel
theorem dX5_mostUrgent_10 : decode cX5_mostUrgent 10 = .ok (.aload_n 0, 1) := by decide +kernel
theorem dX5_mostUrgent_11 : decode cX5_mostUrgent 11 = .ok (.getfield 11, 3) := by decide +kernel
theorem dX5_mostUrgent_14 : decode cX5_mostUrgent 14 = .ok (.arraylength, 1) := by decide +kernel
theorem dX5_mostUrgent_15 : decode cX5_mostUrgent 15 = .ok (.if_icmp .ge 84, 3) := by decide +kernel
theorem dX5_mostUrgent_18 : decode cX5_mostUrgent 18 = .ok (.aload_n 0, 1) := by decide +kernel
theorem dX5_mostUrgent_19 : decode cX5_mostUrgent 19 = .ok (.getfield 11, 3) := by decide +kernel
theorem dX5_mostUrgent_22 : decode cX5_mostUrgent 22 = .ok (.iload 4, 2) := by decide +kernel
theorem dX5_mostUrgent_24 : decode cX5_mostUrgent 24 = .ok (.aaload, 1) := by decide +kernel
theorem dX5_mostUrgent_25 : decode cX5_mostUrgent 25 = .ok (.astore 5, 2) := by decide +kernel
theorem dX5_mostUrgent_27 : decode cX5_mostUrgent 27 = .ok (.aload 5, 2) := by decide +kernel
theorem dX5_mostUrgent_29 : decode cX5_mostUrgent 29 = .ok (.ifnull 64, 3) := by decide +kernel
theorem dX5_mostUrgent_32 : decode cX5_mostUrgent 32 = .ok (.iload_n 1, 1) := by decide +kernel
theorem dX5_mostUrgent_33 : decode cX5_mostUrgent 33 = .ok (.iload 4, 2) := by decide +kernel
theorem dX5_mostUrgent_35 : decode cX5_mostUrgent 35 = .ok (.ishr, 1) := by decide +kernel
theorem dX5_mostUrgent_36 : decode cX5_mostUrgent 36 = .ok (.iconst 1, 1) := by decide +kernel
theorem dX5_mostUrgent_37 : decode cX5_mostUrgent 37 = .ok (.iand, 1) := by decide +kernel
theorem dX5_mostUrgent_38 : decode cX5_mostUrgent 38 = .ok (.iconst 1, 1) := by decide +kernel
theorem dX5_mostUrgent_39 : decode cX5_mostUrgent 39 = .ok (.if_icmp .eq 54, 3) := by decide +kernel
theorem dX5_mostUrgent_42 : decode cX5_mostUrgent 42 = .ok (.aload 5, 2) := by decide +kernel
theorem dX5_mostUrgent_44 : decode cX5_mostUrgent 44 = .ok (.aload_n 0, 1) := by decide +kernel
theorem dX5_mostUrgent_45 : decode cX5_mostUrgent 45 = .ok (.getfield 43, 3) := by decide +kernel
theorem dX5_mostUrgent_48 : decode cX5_mostUrgent 48 = .ok (.aload_n 0, 1) := by decide +kernel
theorem dX5_mostUrgent_49 : decode cX5_mostUrgent 49 = .ok (.getfield 46, 3) := by decide +kernel
theorem dX5_mostUrgent_52 : decode cX5_mostUrgent 52 = .ok (.invokevirtual 118, 3) := by decide +kernel
theorem dX5_mostUrgent_55 : decode cX5_mostUrgent 55 = .ok (.ifCond .ne 6, 3) := by decide +kernel
theorem dX5_mostUrgent_58 : decode cX5_mostUrgent 58 = .ok (.goto 35, 3) := by decide +kernel
theorem dX5_mostUrgent_61 : decode cX5_mostUrgent 61 = .ok (.aload 5, 2) := by decide +kernel
theorem dX5_mostUrgent_63 : decode cX5_mostUrgent 63 = .ok (.aload_n 0, 1) := by decide +kernel
theorem dX5_mostUrgent_64 : decode cX5_mostUrgent 64 = .ok (.getfield 46, 3) := by decide +kernel
theorem dX5_mostUrgent_67 : decode cX5_mostUrgent 67 = .ok (.invokevirtual 221, 3) := by decide +kernel
theorem dX5_mostUrgent_70 : decode cX5_mostUrgent 70 = .ok (.istore 6, 2) := by decide +kernel
theorem dX5_mostUrgent_72 : decode cX5_mostUrgent 72 = .ok (.iload_n 2, 1) := by decide +kernel
theorem dX5_mostUrgent_73 : decode cX5_mostUrgent 73 = .ok (.ldc 220, 2) := by decide +kernel
theorem dX5_mostUrgent_75 : decode cX5_mostUrgent 75 = .ok (.if_icmp .eq 12, 3) := by decide +kernel
theorem dX5_mostUrgent_78 : decode cX5_mostUrgent 78 = .ok (.iload 6, 2) := by decide +kernel
theorem dX5_mostUrgent_80 : decode cX5_mostUrgent 80 = .ok (.iload_n 3, 1) := by decide +kernel
theorem dX5_mostUrgent_81 : decode cX5_mostUrgent 81 = .ok (.if_icmp .lt 6, 3) := by decide +kernel
theorem dX5_mostUrgent_84 : decode cX5_mostUrgent 84 = .ok (.goto 9, 3) := by decide +kernel
theorem dX5_mostUrgent_87 : decode cX5_mostUrgent 87 = .ok (.iload 4, 2) := by decide +kernel
theorem dX5_mostUrgent_89 : decode cX5_mostUrgent 89 = .ok (.istore_n 2, 1) := by decide +kernel
theorem dX5_mostUrgent_90 : decode cX5_mostUrgent 90 = .ok (.iload 6, 2) := by decide +kernel
theorem dX5_mostUrgent_92 : decode cX5_mostUrgent 92 = .ok (.istore_n 3, 1) := by decide +kernel
theorem dX5_mostUrgent_93 : decode cX5_mostUrgent 93 = .ok (.iinc 4 1, 3) := by decide +kernel
theorem dX5_mostUrgent_96 : decode cX5_mostUrgent 96 = .ok (.goto (-88), 3) := by decide +kernel
theorem dX5_mostUrgent_99 : decode cX5_mostUrgent 99 = .ok (.iload_n 2, 1) := by decide +kernel
theorem dX5_mostUrgent_100 : decode cX5_mostUrgent 100 = .ok (.ireturn, 1) := by decide +kernel
theorem dX5_isNoRound_0 : decode cX5_isNoRound 0 = .ok (.iload_n 1, 1) := by decide +kernel
theorem dX5_isNoRound_1 : decode cX5_isNoRound 1 = .ok (.ifCond .le 21, 3) := by decide +kernel
theorem dX5_isNoRound_4 : decode cX5_isNoRound 4 = .ok (.iload_n 1, 1) := by decide +kernel
theorem dX5_isNoRound_5 : decode cX5_isNoRound 5 = .ok (.aload_n 0, 1) := by decide +kernel
theorem dX5_isNoRound_6 : decode cX5_isNoRound 6 = .ok (.getfield 36, 3) := by decide +kernel
theorem dX5_isNoRound_9 : decode cX5_isNoRound 9 = .ok (.ishr, 1) := by decide +kernel
theorem dX5_isNoRound_10 : decode cX5_isNoRound 10 = .ok (.ifCond .ne 12, 3) := by decide +kernel
theorem dX5_isNoRound_13 : decode cX5_isNoRound 13 = .ok (.iload_n 1, 1) := by decide +kernel
theorem dX5_isNoRound_14 : decode cX5_isNoRound 14 = .ok (.invokestatic 133, 3) := by decide +kernel
theorem dX5_isNoRound_17 : decode cX5_isNoRound 17 = .ok (.bipush 8, 2) := by decide +kernel
theorem dX5_isNoRound_19 : decode cX5_isNoRound 19 = .ok (.if_icmp .le 7, 3) := by decide +kernel
theorem dX5_isNoRound_22 : decode cX5_isNoRound 22 = .ok (.iconst 1, 1) := by decide +kernel
theorem dX5_isNoRound_23 : decode cX5_isNoRound 23 = .ok (.goto 4, 3) := by decide +kernel
theorem dX5_isNoRound_26 : decode cX5_isNoRound 26 = .ok (.iconst 0, 1) := by decide +kernel
theorem dX5_isNoRound_27 : decode cX5_isNoRound 27 = .ok (.ireturn, 1) := by decide +kernel
theorem dX5_needOf_0 : decode cX5_needOf 0 = .ok (.iconst 0, 1) := by decide +kernel
theorem dX5_needOf_1 : decode cX5_needOf 1 = .ok (.istore_n 2, 1) := by decide +kernel
theorem dX5_needOf_2 : decode cX5_needOf 2 = .ok (.iconst 0, 1) := by decide +kernel
theorem dX5_needOf_3 : decode cX5_needOf 3 = .ok (.istore_n 3, 1) := by decide +kernel
theorem dX5_needOf_4 : decode cX5_needOf 4 = .ok (.iload_n 3, 1) := by decide +kernel
theorem dX5_needOf_5 : decode cX5_needOf 5 = .ok (.aload_n 0, 1) := by decide +kernel
theorem dX5_needOf_6 : decode cX5_needOf 6 = .ok (.getfield 11, 3) := by decide +kernel
theorem dX5_needOf_9 : decode cX5_needOf 9 = .ok (.arraylength, 1) := by decide +kernel
theorem dX5_needOf_10 : decode cX5_needOf 10 = .ok (.if_icmp .ge 39, 3) := by decide +kernel
theorem dX5_needOf_13 : decode cX5_needOf 13 = .ok (.aload_n 0, 1) := by decide +kernel
theorem dX5_needOf_14 : decode cX5_needOf 14 = .ok (.getfield 11, 3) := by decide +kernel
theorem dX5_needOf_17 : decode cX5_needOf 17 = .ok (.iload_n 3, 1) := by decide +kernel
theorem dX5_needOf_18 : decode cX5_needOf 18 = .ok (.aaload, 1) := by decide +kernel
theorem dX5_needOf_19 : decode cX5_needOf 19 = .ok (.astore 4, 2) := by decide +kernel
theorem dX5_needOf_21 : decode cX5_needOf 21 = .ok (.aload 4, 2) := by decide +kernel
theorem dX5_needOf_23 : decode cX5_needOf 23 = .ok (.ifnull 20, 3) := by decide +kernel
theorem dX5_needOf_26 : decode cX5_needOf 26 = .ok (.iload_n 1, 1) := by decide +kernel
theorem dX5_needOf_27 : decode cX5_needOf 27 = .ok (.iload_n 3, 1) := by decide +kernel
theorem dX5_needOf_28 : decode cX5_needOf 28 = .ok (.ishr, 1) := by decide +kernel
theorem dX5_needOf_29 : decode cX5_needOf 29 = .ok (.iconst 1, 1) := by decide +kernel
theorem dX5_needOf_30 : decode cX5_needOf 30 = .ok (.iand, 1) := by decide +kernel
theorem dX5_needOf_31 : decode cX5_needOf 31 = .ok (.iconst 1, 1) := by decide +kernel
theorem dX5_needOf_32 : decode cX5_needOf 32 = .ok (.if_icmp .ne 11, 3) := by decide +kernel
theorem dX5_needOf_35 : decode cX5_needOf 35 = .ok (.iload_n 2, 1) := by decide +kernel
theorem dX5_needOf_36 : decode cX5_needOf 36 = .ok (.aload 4, 2) := by decide +kernel
theorem dX5_needOf_38 : decode cX5_needOf 38 = .ok (.invokevirtual 141, 3) := by decide +kernel
theorem dX5_needOf_41 : decode cX5_needOf 41 = .ok (.iadd, 1) := by decide +kernel
theorem dX5_needOf_42 : decode cX5_needOf 42 = .ok (.istore_n 2, 1) := by decide +kernel
theorem dX5_needOf_43 : decode cX5_needOf 43 = .ok (.iinc 3 1, 3) := by decide +kernel
theorem dX5_needOf_46 : decode cX5_needOf 46 = .ok (.goto (-42), 3) := by decide +kernel
theorem dX5_needOf_49 : decode cX5_needOf 49 = .ok (.iload_n 2, 1) := by decide +kernel
theorem dX5_needOf_50 : decode cX5_needOf 50 = .ok (.ireturn, 1) := by decide +kernel
