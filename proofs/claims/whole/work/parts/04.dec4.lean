theorem dX6_init_0 : decode cX6_init 0 = .ok (.aload_n 0, 1) := by decide +kernel
theorem dX6_init_1 : decode cX6_init 1 = .ok (.invokespecial 1, 3) := by decide +kernel
theorem dX6_init_4 : decode cX6_init 4 = .ok (.aload_n 0, 1) := by decide +kernel
theorem dX6_init_5 : decode cX6_init 5 = .ok (.bipush 24, 2) := by decide +kernel
theorem dX6_init_7 : decode cX6_init 7 = .ok (.newarray .int, 2) := by decide +kernel
theorem dX6_init_9 : decode cX6_init 9 = .ok (.putfield 7, 3) := by decide +kernel
theorem dX6_init_12 : decode cX6_init 12 = .ok (.aload_n 0, 1) := by decide +kernel
theorem dX6_init_13 : decode cX6_init 13 = .ok (.bipush 24, 2) := by decide +kernel
theorem dX6_init_15 : decode cX6_init 15 = .ok (.newarray .int, 2) := by decide +kernel
theorem dX6_init_17 : decode cX6_init 17 = .ok (.putfield 13, 3) := by decide +kernel
theorem dX6_init_20 : decode cX6_init 20 = .ok (.aload_n 0, 1) := by decide +kernel
theorem dX6_init_21 : decode cX6_init 21 = .ok (.bipush 24, 2) := by decide +kernel
theorem dX6_init_23 : decode cX6_init 23 = .ok (.newarray .int, 2) := by decide +kernel
theorem dX6_init_25 : decode cX6_init 25 = .ok (.putfield 16, 3) := by decide +kernel
theorem dX6_init_28 : decode cX6_init 28 = .ok (.aload_n 0, 1) := by decide +kernel
theorem dX6_init_29 : decode cX6_init 29 = .ok (.bipush 96, 2) := by decide +kernel
theorem dX6_init_31 : decode cX6_init 31 = .ok (.newarray .int, 2) := by decide +kernel
theorem dX6_init_33 : decode cX6_init 33 = .ok (.putfield 19, 3) := by decide +kernel
theorem dX6_init_36 : decode cX6_init 36 = .ok (.aload_n 0, 1) := by decide +kernel
theorem dX6_init_37 : decode cX6_init 37 = .ok (.bipush 24, 2) := by decide +kernel
theorem dX6_init_39 : decode cX6_init 39 = .ok (.newarray .int, 2) := by decide +kernel
theorem dX6_init_41 : decode cX6_init 41 = .ok (.putfield 22, 3) := by decide +kernel
theorem dX6_init_44 : decode cX6_init 44 = .ok (.aload_n 0, 1) := by decide +kernel
theorem dX6_init_45 : decode cX6_init 45 = .ok (.bipush 24, 2) := by decide +kernel
theorem dX6_init_47 : decode cX6_init 47 = .ok (.newarray .int, 2) := by decide +kernel
theorem dX6_init_49 : decode cX6_init 49 = .ok (.putfield 25, 3) := by decide +kernel
theorem dX6_init_52 : decode cX6_init 52 = .ok (.aload_n 0, 1) := by decide +kernel
theorem dX6_init_53 : decode cX6_init 53 = .ok (.bipush 24, 2) := by decide +kernel
theorem dX6_init_55 : decode cX6_init 55 = .ok (.newarray .int, 2) := by decide +kernel
theorem dX6_init_57 : decode cX6_init 57 = .ok (.putfield 28, 3) := by decide +kernel
theorem dX6_init_60 : decode cX6_init 60 = .ok (.aload_n 0, 1) := by decide +kernel
theorem dX6_init_61 : decode cX6_init 61 = .ok (.bipush 24, 2) := by decide +kernel
theorem dX6_init_63 : decode cX6_init 63 = .ok (.newarray .int, 2) := by decide +kernel
theorem dX6_init_65 : decode cX6_init 65 = .ok (.putfield 31, 3) := by decide +kernel
theorem dX6_init_68 : decode cX6_init 68 = .ok (.aload_n 0, 1) := by decide +kernel
theorem dX6_init_69 : decode cX6_init 69 = .ok (.bipush 24, 2) := by decide +kernel
theorem dX6_init_71 : decode cX6_init 71 = .ok (.newarray .boolean, 2) := by decide +kernel
theorem dX6_init_73 : decode cX6_init 73 = .ok (.putfield 34, 3) := by decide +kernel
theorem dX6_init_76 : decode cX6_init 76 = .ok (.aload_n 0, 1) := by decide +kernel
theorem dX6_init_77 : decode cX6_init 77 = .ok (.bipush 24, 2) := by decide +kernel
theorem dX6_init_79 : decode cX6_init 79 = .ok (.newarray .int, 2) := by decide +kernel
theorem dX6_init_81 : decode cX6_init 81 = .ok (.putfield 38, 3) := by decide +kernel
theorem dX6_init_84 : decode cX6_init 84 = .ok (.aload_n 0, 1) := by decide +kernel
theorem dX6_init_85 : decode cX6_init 85 = .ok (.bipush 24, 2) := by decide +kernel
theorem dX6_init_87 : decode cX6_init 87 = .ok (.newarray .int, 2) := by decide +kernel
theorem dX6_init_89 : decode cX6_init 89 = .ok (.putfield 41, 3) := by decide +kernel
theorem dX6_init_92 : decode cX6_init 92 = .ok (.aload_n 0, 1) := by decide +kernel
theorem dX6_init_93 : decode cX6_init 93 = .ok (.bipush 24, 2) := by decide +kernel
theorem dX6_init_95 : decode cX6_init 95 = .ok (.newarray .int, 2) := by decide +kernel
theorem dX6_init_97 : decode cX6_init 97 = .ok (.putfield 44, 3) := by decide +kernel
theorem dX6_init_100 : decode cX6_init 100 = .ok (.aload_n 0, 1) := by decide +kernel
theorem dX6_init_101 : decode cX6_init 101 = .ok (.bipush 24, 2) := by decide +kernel
theorem dX6_init_103 : decode cX6_init 103 = .ok (.newarray .int, 2) := by decide +kernel
theorem dX6_init_105 : decode cX6_init 105 = .ok (.putfield 47, 3) := by decide +kernel
theorem dX6_init_108 : decode cX6_init 108 = .ok (.aload_n 0, 1) := by decide +kernel
theorem dX6_init_109 : decode cX6_init 109 = .ok (.bipush 24, 2) := by decide +kernel
theorem dX6_init_111 : decode cX6_init 111 = .ok (.newarray .int, 2) := by decide +kernel
theorem dX6_init_113 : decode cX6_init 113 = .ok (.putfield 50, 3) := by decide +kernel
theorem dX6_init_116 : decode cX6_init 116 = .ok (.aload_n 0, 1) := by decide +kernel
theorem dX6_init_117 : decode cX6_init 117 = .ok (.iconst 3, 1) := by decide +kernel
theorem dX6_init_118 : decode cX6_init 118 = .ok (.putfield 53, 3) := by decide +kernel
theorem dX6_init_121 : decode cX6_init 121 = .ok (.aload_n 0, 1) := by decide +kernel
theorem dX6_init_122 : decode cX6_init 122 = .ok (.bipush 20, 2) := by decide +kernel
theorem dX6_init_124 : decode cX6_init 124 = .ok (.putfield 57, 3) := by decide +kernel
theorem dX6_init_127 : decode cX6_init 127 = .ok (.aload_n 0, 1) := by decide +kernel
theorem dX6_init_128 : decode cX6_init 128 = .ok (.sipush 3000, 3) := by decide +kernel
theorem dX6_init_131 : decode cX6_init 131 = .ok (.putfield 60, 3) := by decide +kernel
theorem dX6_init_134 : decode cX6_init 134 = .ok (.aload_n 0, 1) := by decide +kernel
theorem dX6_init_135 : decode cX6_init 135 = .ok (.bipush 100, 2) := by decide +kernel
theorem dX6_init_137 : decode cX6_init 137 = .ok (.putfield 63, 3) := by decide +kernel
theorem dX6_init_140 : decode cX6_init 140 = .ok (.aload_n 0, 1) := by decide +kernel
theorem dX6_init_141 : decode cX6_init 141 = .ok (.bipush 8, 2) := by decide +kernel
theorem dX6_init_143 : decode cX6_init 143 = .ok (.newarray .int, 2) := by decide +kernel
theorem dX6_init_145 : decode cX6_init 145 = .ok (.putfield 66, 3) := by decide +kernel
theorem dX6_init_148 : decode cX6_init 148 = .ok (.aload_n 0, 1) := by decide +kernel
theorem dX6_init_149 : decode cX6_init 149 = .ok (.sipush 2048, 3) := by decide +kernel
theorem dX6_init_152 : decode cX6_init 152 = .ok (.newarray .int, 2) := by decide +kernel
theorem dX6_init_154 : decode cX6_init 154 = .ok (.putfield 69, 3) := by decide +kernel
theorem dX6_init_157 : decode cX6_init 157 = .ok (.aload_n 0, 1) := by decide +kernel
theorem dX6_init_158 : decode cX6_init 158 = .ok (.sipush 300, 3) := by decide +kernel
theorem dX6_init_161 : decode cX6_init 161 = .ok (.newarray .int, 2) := by decide +kernel
theorem dX6_init_163 : decode cX6_init 163 = .ok (.putfield 72, 3) := by decide +kernel
theorem dX6_init_166 : decode cX6_init 166 = .ok (.aload_n 0, 1) := by decide +kernel
theorem dX6_init_167 : decode cX6_init 167 = .ok (.bipush 40, 2) := by decide +kernel
theorem dX6_init_169 : decode cX6_init 169 = .ok (.newarray .int, 2) := by decide +kernel
theorem dX6_init_171 : decode cX6_init 171 = .ok (.putfield 75, 3) := by decide +kernel
theorem dX6_init_174 : decode cX6_init 174 = .ok (.aload_n 0, 1) := by decide +kernel
theorem dX6_init_175 : decode cX6_init 175 = .ok (.bipush 40, 2) := by decide +kernel
theorem dX6_init_177 : decode cX6_init 177 = .ok (.newarray .int, 2) := by decide +kernel
theorem dX6_init_179 : decode cX6_init 179 = .ok (.putfield 78, 3) := by decide +kernel
theorem dX6_init_182 : decode cX6_init 182 = .ok (.aload_n 0, 1) := by decide +kernel
theorem dX6_init_183 : decode cX6_init 183 = .ok (.bipush 40, 2) := by decide +kernel
theorem dX6_init_185 : decode cX6_init 185 = .ok (.newarray .int, 2) := by decide +kernel
theorem dX6_init_187 : decode cX6_init 187 = .ok (.putfield 81, 3) := by decide +kernel
theorem dX6_init_190 : decode cX6_init 190 = .ok (.aload_n 0, 1) := by decide +kernel
theorem dX6_init_191 : decode cX6_init 191 = .ok (.bipush 40, 2) := by decide +kernel
theorem dX6_init_193 : decode cX6_init 193 = .ok (.newarray .int, 2) := by decide +kernel
theorem dX6_init_195 : decode cX6_init 195 = .ok (.putfield 84, 3) := by decide +kernel
theorem dX6_init_198 : decode cX6_init 198 = .ok (.aload_n 0, 1) := by decide +kernel
theorem dX6_init_199 : decode cX6_init 199 = .ok (.bipush 16, 2) := by decide +kernel
theorem dX6_init_201 : decode cX6_init 201 = .ok (.newarray .int, 2) := by decide +kernel
theorem dX6_init_203 : decode cX6_init 203 = .ok (.putfield 87, 3) := by decide +kernel
theorem dX6_init_206 : decode cX6_init 206 = .ok (.return_, 1) := by decide +kernel
theorem dX6_in_0 : decode cX6_in 0 = .ok (.lload_n 0, 1) := by decide +kernel
theorem dX6_in_1 : decode cX6_in 1 = .ok (.lload_n 2, 1) := by decide +kernel
theorem dX6_in_2 : decode cX6_in 2 = .ok (.lcmp, 1) := by decide +kernel
theorem dX6_in_3 : decode cX6_in 3 = .ok (.ifCond .lt 14, 3) := by decide +kernel
theorem dX6_in_6 : decode cX6_in 6 = .ok (.lload_n 0, 1) := by decide +kernel
theorem dX6_in_7 : decode cX6_in 7 = .ok (.lload 4, 2) := by decide +kernel
theorem dX6_in_9 : decode cX6_in 9 = .ok (.lcmp, 1) := by decide +kernel
theorem dX6_in_10 : decode cX6_in 10 = .ok (.ifCond .gt 7, 3) := by decide +kernel
theorem dX6_in_13 : decode cX6_in 13 = .ok (.iconst 1, 1) := by decide +kernel
theorem dX6_in_14 : decode cX6_in 14 = .ok (.goto 4, 3) := by decide +kernel
theorem dX6_in_17 : decode cX6_in 17 = .ok (.iconst 0, 1) := by decide +kernel
theorem dX6_in_18 : decode cX6_in 18 = .ok (.ireturn, 1) := by decide +kernel
theorem dX6_isHouse_0 : decode cX6_isHouse 0 = .ok (.iload_n 1, 1) := by decide +kernel
theorem dX6_isHouse_1 : decode cX6_isHouse 1 = .ok (.i2l, 1) := by decide +kernel
theorem dX6_isHouse_2 : decode cX6_isHouse 2 = .ok (.lconst 0, 1) := by decide +kernel
theorem dX6_isHouse_3 : decode cX6_isHouse 3 = .ok (.aload_n 0, 1) := by decide +kernel
theorem dX6_isHouse_4 : decode cX6_isHouse 4 = .ok (.getfield 93, 3) := by decide +kernel
theorem dX6_isHouse_7 : decode cX6_isHouse 7 = .ok (.iconst 1, 1) := by decide +kernel
theorem dX6_isHouse_8 : decode cX6_isHouse 8 = .ok (.isub, 1) := by decide +kernel
theorem dX6_isHouse_9 : decode cX6_isHouse 9 = .ok (.i2l, 1) := by decide +kernel
theorem dX6_isHouse_10 : decode cX6_isHouse 10 = .ok (.invokestatic 96, 3) := by decide +kernel
theorem dX6_isHouse_13 : decode cX6_isHouse 13 = .ok (.ireturn, 1) := by decide +kernel
theorem dX6_house_0 : decode cX6_house 0 = .ok (.aload_n 0, 1) := by decide +kernel
theorem dX6_house_1 : decode cX6_house 1 = .ok (.iconst 0, 1) := by decide +kernel
theorem dX6_house_2 : decode cX6_house 2 = .ok (.putfield 90, 3) := by decide +kernel
theorem dX6_house_5 : decode cX6_house 5 = .ok (.iload_n 1, 1) := by decide +kernel
theorem dX6_house_6 : decode cX6_house 6 = .ok (.i2l, 1) := by decide +kernel
theorem dX6_house_7 : decode cX6_house 7 = .ok (.lconst 0, 1) := by decide +kernel
theorem dX6_house_8 : decode cX6_house 8 = .ok (.ldc2_w 100, 3) := by decide +kernel
theorem dX6_house_11 : decode cX6_house 11 = .ok (.invokestatic 96, 3) := by decide +kernel
theorem dX6_house_14 : decode cX6_house 14 = .ok (.ifCond .eq 29, 3) := by decide +kernel
theorem dX6_house_17 : decode cX6_house 17 = .ok (.iload_n 2, 1) := by decide +kernel
theorem dX6_house_18 : decode cX6_house 18 = .ok (.i2l, 1) := by decide +kernel
theorem dX6_house_19 : decode cX6_house 19 = .ok (.lconst 0, 1) := by decide +kernel
theorem dX6_house_20 : decode cX6_house 20 = .ok (.ldc2_w 100, 3) := by decide +kernel
theorem dX6_house_23 : decode cX6_house 23 = .ok (.invokestatic 96, 3) := by decide +kernel
theorem dX6_house_26 : decode cX6_house 26 = .ok (.ifCond .eq 17, 3) := by decide +kernel
theorem dX6_house_29 : decode cX6_house 29 = .ok (.iload_n 3, 1) := by decide +kernel
theorem dX6_house_30 : decode cX6_house 30 = .ok (.i2l, 1) := by decide +kernel
theorem dX6_house_31 : decode cX6_house 31 = .ok (.ldc2_w 102, 3) := by decide +kernel
theorem dX6_house_34 : decode cX6_house 34 = .ok (.ldc2_w 104, 3) := by decide +kernel
theorem dX6_house_37 : decode cX6_house 37 = .ok (.invokestatic 96, 3) := by decide +kernel
theorem dX6_house_40 : decode cX6_house 40 = .ok (.ifCond .ne 6, 3) := by decide +kernel
theorem dX6_house_43 : decode cX6_house 43 = .ok (.ldc 106, 2) := by decide +kernel
theorem dX6_house_45 : decode cX6_house 45 = .ok (.ireturn, 1) := by decide +kernel
theorem dX6_house_46 : decode cX6_house 46 = .ok (.aload_n 0, 1) := by decide +kernel
theorem dX6_house_47 : decode cX6_house 47 = .ok (.getfield 93, 3) := by decide +kernel
theorem dX6_house_50 : decode cX6_house 50 = .ok (.bipush 24, 2) := by decide +kernel
theorem dX6_house_52 : decode cX6_house 52 = .ok (.if_icmp .ne 6, 3) := by decide +kernel
theorem dX6_house_55 : decode cX6_house 55 = .ok (.ldc 107, 2) := by decide +kernel
theorem dX6_house_57 : decode cX6_house 57 = .ok (.ireturn, 1) := by decide +kernel
theorem dX6_house_58 : decode cX6_house 58 = .ok (.aload_n 0, 1) := by decide +kernel
theorem dX6_house_59 : decode cX6_house 59 = .ok (.getfield 93, 3) := by decide +kernel
theorem dX6_house_62 : decode cX6_house 62 = .ok (.istore 4, 2) := by decide +kernel
theorem dX6_house_64 : decode cX6_house 64 = .ok (.aload_n 0, 1) := by decide +kernel
theorem dX6_house_65 : decode cX6_house 65 = .ok (.getfield 7, 3) := by decide +kernel
theorem dX6_house_68 : decode cX6_house 68 = .ok (.iload 4, 2) := by decide +kernel
theorem dX6_house_70 : decode cX6_house 70 = .ok (.iload_n 1, 1) := by decide +kernel
theorem dX6_house_71 : decode cX6_house 71 = .ok (.iastore, 1) := by decide +kernel
theorem dX6_house_72 : decode cX6_house 72 = .ok (.aload_n 0, 1) := by decide +kernel
theorem dX6_house_73 : decode cX6_house 73 = .ok (.getfield 13, 3) := by decide +kernel
theorem dX6_house_76 : decode cX6_house 76 = .ok (.iload 4, 2) := by decide +kernel
theorem dX6_house_78 : decode cX6_house 78 = .ok (.iload_n 2, 1) := by decide +kernel
theorem dX6_house_79 : decode cX6_house 79 = .ok (.iastore, 1) := by decide +kernel
theorem dX6_house_80 : decode cX6_house 80 = .ok (.aload_n 0, 1) := by decide +kernel
theorem dX6_house_81 : decode cX6_house 81 = .ok (.getfield 16, 3) := by decide +kernel
theorem dX6_house_84 : decode cX6_house 84 = .ok (.iload 4, 2) := by decide +kernel
theorem dX6_house_86 : decode cX6_house 86 = .ok (.iload_n 3, 1) := by decide +kernel
theorem dX6_house_87 : decode cX6_house 87 = .ok (.iastore, 1) := by decide +kernel
theorem dX6_house_88 : decode cX6_house 88 = .ok (.aload_n 0, 1) := by decide +kernel
theorem dX6_house_89 : decode cX6_house 89 = .ok (.getfield 19, 3) := by decide +kernel
theorem dX6_house_92 : decode cX6_house 92 = .ok (.iconst 4, 1) := by decide +kernel
theorem dX6_house_93 : decode cX6_house 93 = .ok (.iload 4, 2) := by decide +kernel
theorem dX6_house_95 : decode cX6_house 95 = .ok (.imul, 1) := by decide +kernel
theorem dX6_house_96 : decode cX6_house 96 = .ok (.iconst 0, 1) := by decide +kernel
theorem dX6_house_97 : decode cX6_house 97 = .ok (.iastore, 1) := by decide +kernel
theorem dX6_house_98 : decode cX6_house 98 = .ok (.aload_n 0, 1) := by decide +kernel
theorem dX6_house_99 : decode cX6_house 99 = .ok (.getfield 19, 3) := by decide +kernel
theorem dX6_house_102 : decode cX6_house 102 = .ok (.iconst 4, 1) := by decide +kernel
theorem dX6_house_103 : decode cX6_house 103 = .ok (.iload 4, 2) := by decide +kernel
theorem dX6_house_105 : decode cX6_house 105 = .ok (.imul, 1) := by decide +kernel
theorem dX6_house_106 : decode cX6_house 106 = .ok (.iconst 1, 1) := by decide +kernel
theorem dX6_house_107 : decode cX6_house 107 = .ok (.iadd, 1) := by decide +kernel
theorem dX6_house_108 : decode cX6_house 108 = .ok (.iconst 0, 1) := by decide +kernel
theorem dX6_house_109 : decode cX6_house 109 = .ok (.iastore, 1) := by decide +kernel
theorem dX6_house_110 : decode cX6_house 110 = .ok (.aload_n 0, 1) := by decide +kernel
theorem dX6_house_111 : decode cX6_house 111 = .ok (.getfield 19, 3) := by decide +kernel
theorem dX6_house_114 : decode cX6_house 114 = .ok (.iconst 4, 1) := by decide +kernel
theorem dX6_house_115 : decode cX6_house 115 = .ok (.iload 4, 2) := by decide +kernel
theorem dX6_house_117 : decode cX6_house 117 = .ok (.imul, 1) := by decide +kernel
theorem dX6_house_118 : decode cX6_house 118 = .ok (.iconst 2, 1) := by decide +kernel
theorem dX6_house_119 : decode cX6_house 119 = .ok (.iadd, 1) := by decide +kernel
theorem dX6_house_120 : decode cX6_house 120 = .ok (.bipush 50, 2) := by decide +kernel
theorem dX6_house_122 : decode cX6_house 122 = .ok (.iastore, 1) := by decide +kernel
theorem dX6_house_123 : decode cX6_house 123 = .ok (.aload_n 0, 1) := by decide +kernel
theorem dX6_house_124 : decode cX6_house 124 = .ok (.getfield 19, 3) := by decide +kernel
theorem dX6_house_127 : decode cX6_house 127 = .ok (.iconst 4, 1) := by decide +kernel
theorem dX6_house_128 : decode cX6_house 128 = .ok (.iload 4, 2) := by decide +kernel
theorem dX6_house_130 : decode cX6_house 130 = .ok (.imul, 1) := by decide +kernel
theorem dX6_house_131 : decode cX6_house 131 = .ok (.iconst 3, 1) := by decide +kernel
theorem dX6_house_132 : decode cX6_house 132 = .ok (.iadd, 1) := by decide +kernel
theorem dX6_house_133 : decode cX6_house 133 = .ok (.bipush 50, 2) := by decide +kernel
theorem dX6_house_135 : decode cX6_house 135 = .ok (.iastore, 1) := by decide +kernel
theorem dX6_house_136 : decode cX6_house 136 = .ok (.aload_n 0, 1) := by decide +kernel
theorem dX6_house_137 : decode cX6_house 137 = .ok (.getfield 22, 3) := by decide +kernel
theorem dX6_house_140 : decode cX6_house 140 = .ok (.iload 4, 2) := by decide +kernel
theorem dX6_house_142 : decode cX6_house 142 = .ok (.iload_n 3, 1) := by decide +kernel
theorem dX6_house_143 : decode cX6_house 143 = .ok (.iastore, 1) := by decide +kernel
theorem dX6_house_144 : decode cX6_house 144 = .ok (.aload_n 0, 1) := by decide +kernel
theorem dX6_house_145 : decode cX6_house 145 = .ok (.getfield 25, 3) := by decide +kernel
theorem dX6_house_148 : decode cX6_house 148 = .ok (.iload 4, 2) := by decide +kernel
theorem dX6_house_150 : decode cX6_house 150 = .ok (.iload_n 3, 1) := by decide +kernel
theorem dX6_house_151 : decode cX6_house 151 = .ok (.iastore, 1) := by decide +kernel
theorem dX6_house_152 : decode cX6_house 152 = .ok (.aload_n 0, 1) := by decide +kernel
theorem dX6_house_153 : decode cX6_house 153 = .ok (.dup, 1) := by decide +kernel
theorem dX6_house_154 : decode cX6_house 154 = .ok (.getfield 93, 3) := by decide +kernel
theorem dX6_house_157 : decode cX6_house 157 = .ok (.iconst 1, 1) := by decide +kernel
theorem dX6_house_158 : decode cX6_house 158 = .ok (.iadd, 1) := by decide +kernel
theorem dX6_house_159 : decode cX6_house 159 = .ok (.putfield 93, 3) := by decide +kernel
theorem dX6_house_162 : decode cX6_house 162 = .ok (.iload 4, 2) := by decide +kernel
theorem dX6_house_164 : decode cX6_house 164 = .ok (.ireturn, 1) := by decide +kernel
theorem dX6_prior_0 : decode cX6_prior 0 = .ok (.aload_n 0, 1) := by decide +kernel
theorem dX6_prior_1 : decode cX6_prior 1 = .ok (.iconst 0, 1) := by decide +kernel
theorem dX6_prior_2 : decode cX6_prior 2 = .ok (.putfield 90, 3) := by decide +kernel
theorem dX6_prior_5 : decode cX6_prior 5 = .ok (.aload_n 0, 1) := by decide +kernel
theorem dX6_prior_6 : decode cX6_prior 6 = .ok (.iload_n 1, 1) := by decide +kernel
theorem dX6_prior_7 : decode cX6_prior 7 = .ok (.invokevirtual 108, 3) := by decide +kernel
theorem dX6_prior_10 : decode cX6_prior 10 = .ok (.ifCond .eq 55, 3) := by decide +kernel
theorem dX6_prior_13 : decode cX6_prior 13 = .ok (.iload_n 2, 1) := by decide +kernel
theorem dX6_prior_14 : decode cX6_prior 14 = .ok (.i2l, 1) := by decide +kernel
theorem dX6_prior_15 : decode cX6_prior 15 = .ok (.lconst 0, 1) := by decide +kernel
theorem dX6_prior_16 : decode cX6_prior 16 = .ok (.ldc2_w 100, 3) := by decide +kernel
theorem dX6_prior_19 : decode cX6_prior 19 = .ok (.invokestatic 96, 3) := by decide +kernel
theorem dX6_prior_22 : decode cX6_prior 22 = .ok (.ifCond .eq 43, 3) := by decide +kernel
theorem dX6_prior_25 : decode cX6_prior 25 = .ok (.iload_n 3, 1) := by decide +kernel
theorem dX6_prior_26 : decode cX6_prior 26 = .ok (.i2l, 1) := by decide +kernel
theorem dX6_prior_27 : decode cX6_prior 27 = .ok (.lconst 0, 1) := by decide +kernel
theorem dX6_prior_28 : decode cX6_prior 28 = .ok (.ldc2_w 100, 3) := by decide +kernel
theorem dX6_prior_31 : decode cX6_prior 31 = .ok (.invokestatic 96, 3) := by decide +kernel
theorem dX6_prior_34 : decode cX6_prior 34 = .ok (.ifCond .eq 31, 3) := by decide +kernel
theorem dX6_prior_37 : decode cX6_prior 37 = .ok (.iload 4, 2) := by decide +kernel
theorem dX6_prior_39 : decode cX6_prior 39 = .ok (.i2l, 1) := by decide +kernel
theorem dX6_prior_40 : decode cX6_prior 40 = .ok (.iload_n 2, 1) := by decide +kernel
theorem dX6_prior_41 : decode cX6_prior 41 = .ok (.i2l, 1) := by decide +kernel
theorem dX6_prior_42 : decode cX6_prior 42 = .ok (.ldc2_w 100, 3) := by decide +kernel
theorem dX6_prior_45 : decode cX6_prior 45 = .ok (.invokestatic 96, 3) := by decide +kernel
theorem dX6_prior_48 : decode cX6_prior 48 = .ok (.ifCond .eq 17, 3) := by decide +kernel
theorem dX6_prior_51 : decode cX6_prior 51 = .ok (.iload 5, 2) := by decide +kernel
theorem dX6_prior_53 : decode cX6_prior 53 = .ok (.i2l, 1) := by decide +kernel
theorem dX6_prior_54 : decode cX6_prior 54 = .ok (.iload_n 3, 1) := by decide +kernel
theorem dX6_prior_55 : decode cX6_prior 55 = .ok (.i2l, 1) := by decide +kernel
theorem dX6_prior_56 : decode cX6_prior 56 = .ok (.ldc2_w 100, 3) := by decide +kernel
theorem dX6_prior_59 : decode cX6_prior 59 = .ok (.invokestatic 96, 3) := by decide +kernel
theorem dX6_prior_62 : decode cX6_prior 62 = .ok (.ifCond .ne 6, 3) := by decide +kernel
theorem dX6_prior_65 : decode cX6_prior 65 = .ok (.ldc 106, 2) := by decide +kernel
theorem dX6_prior_67 : decode cX6_prior 67 = .ok (.ireturn, 1) := by decide +kernel
theorem dX6_prior_68 : decode cX6_prior 68 = .ok (.aload_n 0, 1) := by decide +kernel
theorem dX6_prior_69 : decode cX6_prior 69 = .ok (.getfield 28, 3) := by decide +kernel
theorem dX6_prior_72 : decode cX6_prior 72 = .ok (.iload_n 1, 1) := by decide +kernel
theorem dX6_prior_73 : decode cX6_prior 73 = .ok (.iaload, 1) := by decide +kernel
theorem dX6_prior_74 : decode cX6_prior 74 = .ok (.ifCond .gt 12, 3) := by decide +kernel
theorem dX6_prior_77 : decode cX6_prior 77 = .ok (.aload_n 0, 1) := by decide +kernel
theorem dX6_prior_78 : decode cX6_prior 78 = .ok (.getfield 38, 3) := by decide +kernel
theorem dX6_prior_81 : decode cX6_prior 81 = .ok (.iload_n 1, 1) := by decide +kernel
theorem dX6_prior_82 : decode cX6_prior 82 = .ok (.iaload, 1) := by decide +kernel
theorem dX6_prior_83 : decode cX6_prior 83 = .ok (.ifCond .le 6, 3) := by decide +kernel
theorem dX6_prior_86 : decode cX6_prior 86 = .ok (.ldc 112, 2) := by decide +kernel
theorem dX6_prior_88 : decode cX6_prior 88 = .ok (.ireturn, 1) := by decide +kernel
theorem dX6_prior_89 : decode cX6_prior 89 = .ok (.aload_n 0, 1) := by decide +kernel
theorem dX6_prior_90 : decode cX6_prior 90 = .ok (.getfield 19, 3) := by decide +kernel
theorem dX6_prior_93 : decode cX6_prior 93 = .ok (.iconst 4, 1) := by decide +kernel
theorem dX6_prior_94 : decode cX6_prior 94 = .ok (.iload_n 1, 1) := by decide +kernel
theorem dX6_prior_95 : decode cX6_prior 95 = .ok (.imul, 1) := by decide +kernel
theorem dX6_prior_96 : decode cX6_prior 96 = .ok (.iload_n 2, 1) := by decide +kernel
theorem dX6_prior_97 : decode cX6_prior 97 = .ok (.iastore, 1) := by decide +kernel
theorem dX6_prior_98 : decode cX6_prior 98 = .ok (.aload_n 0, 1) := by decide +kernel
theorem dX6_prior_99 : decode cX6_prior 99 = .ok (.getfield 19, 3) := by decide +kernel
theorem dX6_prior_102 : decode cX6_prior 102 = .ok (.iconst 4, 1) := by decide +kernel
theorem dX6_prior_103 : decode cX6_prior 103 = .ok (.iload_n 1, 1) := by decide +kernel
theorem dX6_prior_104 : decode cX6_prior 104 = .ok (.imul, 1) := by decide +kernel
theorem dX6_prior_105 : decode cX6_prior 105 = .ok (.iconst 1, 1) := by decide +kernel
theorem dX6_prior_106 : decode cX6_prior 106 = .ok (.iadd, 1) := by decide +kernel
theorem dX6_prior_107 : decode cX6_prior 107 = .ok (.iload_n 3, 1) := by decide +kernel
theorem dX6_prior_108 : decode cX6_prior 108 = .ok (.iastore, 1) := by decide +kernel
theorem dX6_prior_109 : decode cX6_prior 109 = .ok (.aload_n 0, 1) := by decide +kernel
theorem dX6_prior_110 : decode cX6_prior 110 = .ok (.getfield 19, 3) := by decide +kernel
theorem dX6_prior_113 : decode cX6_prior 113 = .ok (.iconst 4, 1) := by decide +kernel
theorem dX6_prior_114 : decode cX6_prior 114 = .ok (.iload_n 1, 1) := by decide +kernel
theorem dX6_prior_115 : decode cX6_prior 115 = .ok (.imul, 1) := by decide +kernel
theorem dX6_prior_116 : decode cX6_prior 116 = .ok (.iconst 2, 1) := by decide +kernel
theorem dX6_prior_117 : decode cX6_prior 117 = .ok (.iadd, 1) := by decide +kernel
theorem dX6_prior_118 : decode cX6_prior 118 = .ok (.iload 4, 2) := by decide +kernel
theorem dX6_prior_120 : decode cX6_prior 120 = .ok (.iastore, 1) := by decide +kernel
theorem dX6_prior_121 : decode cX6_prior 121 = .ok (.aload_n 0, 1) := by decide +kernel
theorem dX6_prior_122 : decode cX6_prior 122 = .ok (.getfield 19, 3) := by decide +kernel
theorem dX6_prior_125 : decode cX6_prior 125 = .ok (.iconst 4, 1) := by decide +kernel
theorem dX6_prior_126 : decode cX6_prior 126 = .ok (.iload_n 1, 1) := by decide +kernel
theorem dX6_prior_127 : decode cX6_prior 127 = .ok (.imul, 1) := by decide +kernel
theorem dX6_prior_128 : decode cX6_prior 128 = .ok (.iconst 3, 1) := by decide +kernel
theorem dX6_prior_129 : decode cX6_prior 129 = .ok (.iadd, 1) := by decide +kernel
theorem dX6_prior_130 : decode cX6_prior 130 = .ok (.iload 5, 2) := by decide +kernel
theorem dX6_prior_132 : decode cX6_prior 132 = .ok (.iastore, 1) := by decide +kernel
theorem dX6_prior_133 : decode cX6_prior 133 = .ok (.iconst 1, 1) := by decide +kernel
theorem dX6_prior_134 : decode cX6_prior 134 = .ok (.ireturn, 1) := by decide +kernel
theorem dX6_lowOf_0 : decode cX6_lowOf 0 = .ok (.aload_n 0, 1) := by decide +kernel
theorem dX6_lowOf_1 : decode cX6_lowOf 1 = .ok (.getfield 19, 3) := by decide +kernel
theorem dX6_lowOf_4 : decode cX6_lowOf 4 = .ok (.iconst 4, 1) := by decide +kernel
theorem dX6_lowOf_5 : decode cX6_lowOf 5 = .ok (.iload_n 1, 1) := by decide +kernel
theorem dX6_lowOf_6 : decode cX6_lowOf 6 = .ok (.imul, 1) := by decide +kernel
theorem dX6_lowOf_7 : decode cX6_lowOf 7 = .ok (.iaload, 1) := by decide +kernel
theorem dX6_lowOf_8 : decode cX6_lowOf 8 = .ok (.aload_n 0, 1) := by decide +kernel
theorem dX6_lowOf_9 : decode cX6_lowOf 9 = .ok (.getfield 19, 3) := by decide +kernel
theorem dX6_lowOf_12 : decode cX6_lowOf 12 = .ok (.iconst 4, 1) := by decide +kernel
theorem dX6_lowOf_13 : decode cX6_lowOf 13 = .ok (.iload_n 1, 1) := by decide +kernel
theorem dX6_lowOf_14 : decode cX6_lowOf 14 = .ok (.imul, 1) := by decide +kernel
theorem dX6_lowOf_15 : decode cX6_lowOf 15 = .ok (.iconst 1, 1) := by decide +kernel
theorem dX6_lowOf_16 : decode cX6_lowOf 16 = .ok (.iadd, 1) := by decide +kernel
theorem dX6_lowOf_17 : decode cX6_lowOf 17 = .ok (.iaload, 1) := by decide +kernel
theorem dX6_lowOf_18 : decode cX6_lowOf 18 = .ok (.iload_n 2, 1) := by decide +kernel
theorem dX6_lowOf_19 : decode cX6_lowOf 19 = .ok (.imul, 1) := by decide +kernel
theorem dX6_lowOf_20 : decode cX6_lowOf 20 = .ok (.iadd, 1) := by decide +kernel
theorem dX6_lowOf_21 : decode cX6_lowOf 21 = .ok (.ireturn, 1) := by decide +kernel
theorem dX6_highOf_0 : decode cX6_highOf 0 = .ok (.aload_n 0, 1) := by decide +kernel
theorem dX6_highOf_1 : decode cX6_highOf 1 = .ok (.getfield 19, 3) := by decide +kernel
theorem dX6_highOf_4 : decode cX6_highOf 4 = .ok (.iconst 4, 1) := by decide +kernel
theorem dX6_highOf_5 : decode cX6_highOf 5 = .ok (.iload_n 1, 1) := by decide +kernel
theorem dX6_highOf_6 : decode cX6_highOf 6 = .ok (.imul, 1) := by decide +kernel
theorem dX6_highOf_7 : decode cX6_highOf 7 = .ok (.iconst 2, 1) := by decide +kernel
theorem dX6_highOf_8 : decode cX6_highOf 8 = .ok (.iadd, 1) := by decide +kernel
theorem dX6_highOf_9 : decode cX6_highOf 9 = .ok (.iaload, 1) := by decide +kernel
theorem dX6_highOf_10 : decode cX6_highOf 10 = .ok (.aload_n 0, 1) := by decide +kernel
theorem dX6_highOf_11 : decode cX6_highOf 11 = .ok (.getfield 19, 3) := by decide +kernel
theorem dX6_highOf_14 : decode cX6_highOf 14 = .ok (.iconst 4, 1) := by decide +kernel
theorem dX6_highOf_15 : decode cX6_highOf 15 = .ok (.iload_n 1, 1) := by decide +kernel
theorem dX6_highOf_16 : decode cX6_highOf 16 = .ok (.imul, 1) := by decide +kernel
theorem dX6_highOf_17 : decode cX6_highOf 17 = .ok (.iconst 3, 1) := by decide +kernel
theorem dX6_highOf_18 : decode cX6_highOf 18 = .ok (.iadd, 1) := by decide +kernel
theorem dX6_highOf_19 : decode cX6_highOf 19 = .ok (.iaload, 1) := by decide +kernel
theorem dX6_highOf_20 : decode cX6_highOf 20 = .ok (.iload_n 2, 1) := by decide +kernel
theorem dX6_highOf_21 : decode cX6_highOf 21 = .ok (.imul, 1) := by decide +kernel
theorem dX6_highOf_22 : decode cX6_highOf 22 = .ok (.iadd, 1) := by decide +kernel
theorem dX6_highOf_23 : decode cX6_highOf 23 = .ok (.ireturn, 1) := by decide +kernel
theorem dX6_day_0 : decode cX6_day 0 = .ok (.aload_n 0, 1) := by decide +kernel
theorem dX6_day_1 : decode cX6_day 1 = .ok (.iconst 0, 1) := by decide +kernel
theorem dX6_day_2 : decode cX6_day 2 = .ok (.putfield 90, 3) := by decide +kernel
theorem dX6_day_5 : decode cX6_day 5 = .ok (.iload_n 1, 1) := by decide +kernel
theorem dX6_day_6 : decode cX6_day 6 = .ok (.i2l, 1) := by decide +kernel
theorem dX6_day_7 : decode cX6_day 7 = .ok (.lconst 0, 1) := by decide +kernel
theorem dX6_day_8 : decode cX6_day 8 = .ok (.ldc2_w 113, 3) := by decide +kernel
theorem dX6_day_11 : decode cX6_day 11 = .ok (.invokestatic 96, 3) := by decide +kernel
theorem dX6_day_14 : decode cX6_day 14 = .ok (.ifCond .ne 6, 3) := by decide +kernel
theorem dX6_day_17 : decode cX6_day 17 = .ok (.ldc 106, 2) := by decide +kernel
theorem dX6_day_19 : decode cX6_day 19 = .ok (.ireturn, 1) := by decide +kernel
theorem dX6_day_20 : decode cX6_day 20 = .ok (.aload_n 0, 1) := by decide +kernel
theorem dX6_day_21 : decode cX6_day 21 = .ok (.getfield 115, 3) := by decide +kernel
theorem dX6_day_24 : decode cX6_day 24 = .ok (.sipush 20000, 3) := by decide +kernel
theorem dX6_day_27 : decode cX6_day 27 = .ok (.if_icmp .ne 6, 3) := by decide +kernel
theorem dX6_day_30 : decode cX6_day 30 = .ok (.ldc 112, 2) := by decide +kernel
theorem dX6_day_32 : decode cX6_day 32 = .ok (.ireturn, 1) := by decide +kernel
theorem dX6_day_33 : decode cX6_day 33 = .ok (.aload_n 0, 1) := by decide +kernel
theorem dX6_day_34 : decode cX6_day 34 = .ok (.dup, 1) := by decide +kernel
theorem dX6_day_35 : decode cX6_day 35 = .ok (.getfield 115, 3) := by decide +kernel
theorem dX6_day_38 : decode cX6_day 38 = .ok (.iconst 1, 1) := by decide +kernel
theorem dX6_day_39 : decode cX6_day 39 = .ok (.iadd, 1) := by decide +kernel
theorem dX6_day_40 : decode cX6_day 40 = .ok (.putfield 115, 3) := by decide +kernel
theorem dX6_day_43 : decode cX6_day 43 = .ok (.iconst 0, 1) := by decide +kernel
theorem dX6_day_44 : decode cX6_day 44 = .ok (.istore_n 2, 1) := by decide +kernel
theorem dX6_day_45 : decode cX6_day 45 = .ok (.iconst 0, 1) := by decide +kernel
theorem dX6_day_46 : decode cX6_day 46 = .ok (.istore_n 3, 1) := by decide +kernel
theorem dX6_day_47 : decode cX6_day 47 = .ok (.iload_n 3, 1) := by decide +kernel
theorem dX6_day_48 : decode cX6_day 48 = .ok (.aload_n 0, 1) := by decide +kernel
theorem dX6_day_49 : decode cX6_day 49 = .ok (.getfield 93, 3) := by decide +kernel
theorem dX6_day_52 : decode cX6_day 52 = .ok (.if_icmp .ge 110, 3) := by decide +kernel
theorem dX6_day_55 : decode cX6_day 55 = .ok (.aload_n 0, 1) := by decide +kernel
theorem dX6_day_56 : decode cX6_day 56 = .ok (.getfield 22, 3) := by decide +kernel
theorem dX6_day_59 : decode cX6_day 59 = .ok (.iload_n 3, 1) := by decide +kernel
theorem dX6_day_60 : decode cX6_day 60 = .ok (.iaload, 1) := by decide +kernel
theorem dX6_day_61 : decode cX6_day 61 = .ok (.aload_n 0, 1) := by decide +kernel
theorem dX6_day_62 : decode cX6_day 62 = .ok (.iload_n 3, 1) := by decide +kernel
theorem dX6_day_63 : decode cX6_day 63 = .ok (.iload_n 1, 1) := by decide +kernel
theorem dX6_day_64 : decode cX6_day 64 = .ok (.invokevirtual 118, 3) := by decide +kernel
theorem dX6_day_67 : decode cX6_day 67 = .ok (.isub, 1) := by decide +kernel
theorem dX6_day_68 : decode cX6_day 68 = .ok (.istore 4, 2) := by decide +kernel
theorem dX6_day_70 : decode cX6_day 70 = .ok (.aload_n 0, 1) := by decide +kernel
theorem dX6_day_71 : decode cX6_day 71 = .ok (.getfield 25, 3) := by decide +kernel
theorem dX6_day_74 : decode cX6_day 74 = .ok (.iload_n 3, 1) := by decide +kernel
theorem dX6_day_75 : decode cX6_day 75 = .ok (.iaload, 1) := by decide +kernel
theorem dX6_day_76 : decode cX6_day 76 = .ok (.aload_n 0, 1) := by decide +kernel
theorem dX6_day_77 : decode cX6_day 77 = .ok (.iload_n 3, 1) := by decide +kernel
theorem dX6_day_78 : decode cX6_day 78 = .ok (.iload_n 1, 1) := by decide +kernel
theorem dX6_day_79 : decode cX6_day 79 = .ok (.invokevirtual 122, 3) := by decide +kernel
theorem dX6_day_82 : decode cX6_day 82 = .ok (.isub, 1) := by decide +kernel
theorem dX6_day_83 : decode cX6_day 83 = .ok (.istore 5, 2) := by decide +kernel
theorem dX6_day_85 : decode cX6_day 85 = .ok (.aload_n 0, 1) := by decide +kernel
theorem dX6_day_86 : decode cX6_day 86 = .ok (.getfield 22, 3) := by decide +kernel
theorem dX6_day_89 : decode cX6_day 89 = .ok (.iload_n 3, 1) := by decide +kernel
theorem dX6_day_90 : decode cX6_day 90 = .ok (.iload 4, 2) := by decide +kernel
theorem dX6_day_92 : decode cX6_day 92 = .ok (.ifCond .ge 7, 3) := by decide +kernel
theorem dX6_day_95 : decode cX6_day 95 = .ok (.iconst 0, 1) := by decide +kernel
theorem dX6_day_96 : decode cX6_day 96 = .ok (.goto 5, 3) := by decide +kernel
theorem dX6_day_99 : decode cX6_day 99 = .ok (.iload 4, 2) := by decide +kernel
theorem dX6_day_101 : decode cX6_day 101 = .ok (.iastore, 1) := by decide +kernel
theorem dX6_day_102 : decode cX6_day 102 = .ok (.aload_n 0, 1) := by decide +kernel
theorem dX6_day_103 : decode cX6_day 103 = .ok (.getfield 25, 3) := by decide +kernel
theorem dX6_day_106 : decode cX6_day 106 = .ok (.iload_n 3, 1) := by decide +kernel
theorem dX6_day_107 : decode cX6_day 107 = .ok (.iload 5, 2) := by decide +kernel
theorem dX6_day_109 : decode cX6_day 109 = .ok (.ifCond .ge 7, 3) := by decide +kernel
theorem dX6_day_112 : decode cX6_day 112 = .ok (.iconst 0, 1) := by decide +kernel
theorem dX6_day_113 : decode cX6_day 113 = .ok (.goto 5, 3) := by decide +kernel
theorem dX6_day_116 : decode cX6_day 116 = .ok (.iload 5, 2) := by decide +kernel
theorem dX6_day_118 : decode cX6_day 118 = .ok (.iastore, 1) := by decide +kernel
theorem dX6_day_119 : decode cX6_day 119 = .ok (.aload_n 0, 1) := by decide +kernel
theorem dX6_day_120 : decode cX6_day 120 = .ok (.getfield 38, 3) := by decide +kernel
theorem dX6_day_123 : decode cX6_day 123 = .ok (.iload_n 3, 1) := by decide +kernel
theorem dX6_day_124 : decode cX6_day 124 = .ok (.dup2, 1) := by decide +kernel
theorem dX6_day_125 : decode cX6_day 125 = .ok (.iaload, 1) := by decide +kernel
theorem dX6_day_126 : decode cX6_day 126 = .ok (.iconst 1, 1) := by decide +kernel
theorem dX6_day_127 : decode cX6_day 127 = .ok (.iadd, 1) := by decide +kernel
theorem dX6_day_128 : decode cX6_day 128 = .ok (.iastore, 1) := by decide +kernel
theorem dX6_day_129 : decode cX6_day 129 = .ok (.aload_n 0, 1) := by decide +kernel
theorem dX6_day_130 : decode cX6_day 130 = .ok (.getfield 41, 3) := by decide +kernel
theorem dX6_day_133 : decode cX6_day 133 = .ok (.iload_n 3, 1) := by decide +kernel
theorem dX6_day_134 : decode cX6_day 134 = .ok (.dup2, 1) := by decide +kernel
theorem dX6_day_135 : decode cX6_day 135 = .ok (.iaload, 1) := by decide +kernel
theorem dX6_day_136 : decode cX6_day 136 = .ok (.iload_n 1, 1) := by decide +kernel
theorem dX6_day_137 : decode cX6_day 137 = .ok (.iadd, 1) := by decide +kernel
theorem dX6_day_138 : decode cX6_day 138 = .ok (.iastore, 1) := by decide +kernel
theorem dX6_day_139 : decode cX6_day 139 = .ok (.iload_n 2, 1) := by decide +kernel
theorem dX6_day_140 : decode cX6_day 140 = .ok (.aload_n 0, 1) := by decide +kernel
theorem dX6_day_141 : decode cX6_day 141 = .ok (.getfield 25, 3) := by decide +kernel
theorem dX6_day_144 : decode cX6_day 144 = .ok (.iload_n 3, 1) := by decide +kernel
theorem dX6_day_145 : decode cX6_day 145 = .ok (.iaload, 1) := by decide +kernel
theorem dX6_day_146 : decode cX6_day 146 = .ok (.ifCond .ne 7, 3) := by decide +kernel
theorem dX6_day_149 : decode cX6_day 149 = .ok (.iconst 1, 1) := by decide +kernel
theorem dX6_day_150 : decode cX6_day 150 = .ok (.goto 4, 3) := by decide +kernel
theorem dX6_day_153 : decode cX6_day 153 = .ok (.iconst 0, 1) := by decide +kernel
theorem dX6_day_154 : decode cX6_day 154 = .ok (.iadd, 1) := by decide +kernel
theorem dX6_day_155 : decode cX6_day 155 = .ok (.istore_n 2, 1) := by decide +kernel
theorem dX6_day_156 : decode cX6_day 156 = .ok (.iinc 3 1, 3) := by decide +kernel
theorem dX6_day_159 : decode cX6_day 159 = .ok (.goto (-112), 3) := by decide +kernel
theorem dX6_day_162 : decode cX6_day 162 = .ok (.iload_n 2, 1) := by decide +kernel
theorem dX6_day_163 : decode cX6_day 163 = .ok (.ireturn, 1) := by decide +kernel
theorem dX6_isDue_0 : decode cX6_isDue 0 = .ok (.aload_n 0, 1) := by decide +kernel
theorem dX6_isDue_1 : decode cX6_isDue 1 = .ok (.getfield 25, 3) := by decide +kernel
theorem dX6_isDue_4 : decode cX6_isDue 4 = .ok (.iload_n 1, 1) := by decide +kernel
theorem dX6_isDue_5 : decode cX6_isDue 5 = .ok (.iaload, 1) := by decide +kernel
theorem dX6_isDue_6 : decode cX6_isDue 6 = .ok (.aload_n 0, 1) := by decide +kernel
theorem dX6_isDue_7 : decode cX6_isDue 7 = .ok (.getfield 53, 3) := by decide +kernel
theorem dX6_isDue_10 : decode cX6_isDue 10 = .ok (.aload_n 0, 1) := by decide +kernel
theorem dX6_isDue_11 : decode cX6_isDue 11 = .ok (.iload_n 1, 1) := by decide +kernel
theorem dX6_isDue_12 : decode cX6_isDue 12 = .ok (.aload_n 0, 1) := by decide +kernel
theorem dX6_isDue_13 : decode cX6_isDue 13 = .ok (.getfield 57, 3) := by decide +kernel
theorem dX6_isDue_16 : decode cX6_isDue 16 = .ok (.invokevirtual 122, 3) := by decide +kernel
theorem dX6_isDue_19 : decode cX6_isDue 19 = .ok (.imul, 1) := by decide +kernel
theorem dX6_isDue_20 : decode cX6_isDue 20 = .ok (.if_icmp .gt 7, 3) := by decide +kernel
theorem dX6_isDue_23 : decode cX6_isDue 23 = .ok (.iconst 1, 1) := by decide +kernel
theorem dX6_isDue_24 : decode cX6_isDue 24 = .ok (.goto 4, 3) := by decide +kernel
theorem dX6_isDue_27 : decode cX6_isDue 27 = .ok (.iconst 0, 1) := by decide +kernel
theorem dX6_isDue_28 : decode cX6_isDue 28 = .ok (.ireturn, 1) := by decide +kernel
theorem dX6_due_0 : decode cX6_due 0 = .ok (.iconst 0, 1) := by decide +kernel
theorem dX6_due_1 : decode cX6_due 1 = .ok (.istore_n 1, 1) := by decide +kernel
theorem dX6_due_2 : decode cX6_due 2 = .ok (.iconst 0, 1) := by decide +kernel
theorem dX6_due_3 : decode cX6_due 3 = .ok (.istore_n 2, 1) := by decide +kernel
theorem dX6_due_4 : decode cX6_due 4 = .ok (.iload_n 2, 1) := by decide +kernel
theorem dX6_due_5 : decode cX6_due 5 = .ok (.aload_n 0, 1) := by decide +kernel
theorem dX6_due_6 : decode cX6_due 6 = .ok (.getfield 93, 3) := by decide +kernel
theorem dX6_due_9 : decode cX6_due 9 = .ok (.if_icmp .ge 25, 3) := by decide +kernel
theorem dX6_due_12 : decode cX6_due 12 = .ok (.iload_n 1, 1) := by decide +kernel
theorem dX6_due_13 : decode cX6_due 13 = .ok (.aload_n 0, 1) := by decide +kernel
theorem dX6_due_14 : decode cX6_due 14 = .ok (.iload_n 2, 1) := by decide +kernel
theorem dX6_due_15 : decode cX6_due 15 = .ok (.invokevirtual 125, 3) := by decide +kernel
theorem dX6_due_18 : decode cX6_due 18 = .ok (.ifCond .eq 7, 3) := by decide +kernel
theorem dX6_due_21 : decode cX6_due 21 = .ok (.iconst 1, 1) := by decide +kernel
theorem dX6_due_22 : decode cX6_due 22 = .ok (.goto 4, 3) := by decide +kernel
theorem dX6_due_25 : decode cX6_due 25 = .ok (.iconst 0, 1) := by decide +kernel
theorem dX6_due_26 : decode cX6_due 26 = .ok (.iadd, 1) := by decide +kernel
theorem dX6_due_27 : decode cX6_due 27 = .ok (.istore_n 1, 1) := by decide +kernel
theorem dX6_due_28 : decode cX6_due 28 = .ok (.iinc 2 1, 3) := by decide +kernel
theorem dX6_due_31 : decode cX6_due 31 = .ok (.goto (-27), 3) := by decide +kernel
theorem dX6_due_34 : decode cX6_due 34 = .ok (.iload_n 1, 1) := by decide +kernel
theorem dX6_due_35 : decode cX6_due 35 = .ok (.ireturn, 1) := by decide +kernel
theorem dX6_look_0 : decode cX6_look 0 = .ok (.aload_n 0, 1) := by decide +kernel
theorem dX6_look_1 : decode cX6_look 1 = .ok (.iconst 0, 1) := by decide +kernel
theorem dX6_look_2 : decode cX6_look 2 = .ok (.putfield 90, 3) := by decide +kernel
theorem dX6_look_5 : decode cX6_look 5 = .ok (.iload_n 1, 1) := by decide +kernel
theorem dX6_look_6 : decode cX6_look 6 = .ok (.i2l, 1) := by decide +kernel
theorem dX6_look_7 : decode cX6_look 7 = .ok (.lconst 0, 1) := by decide +kernel
theorem dX6_look_8 : decode cX6_look 8 = .ok (.ldc2_w 128, 3) := by decide +kernel
theorem dX6_look_11 : decode cX6_look 11 = .ok (.invokestatic 96, 3) := by decide +kernel
theorem dX6_look_14 : decode cX6_look 14 = .ok (.ifCond .eq 15, 3) := by decide +kernel
theorem dX6_look_17 : decode cX6_look 17 = .ok (.iload_n 2, 1) := by decide +kernel
theorem dX6_look_18 : decode cX6_look 18 = .ok (.i2l, 1) := by decide +kernel
theorem dX6_look_19 : decode cX6_look 19 = .ok (.lconst 0, 1) := by decide +kernel
theorem dX6_look_20 : decode cX6_look 20 = .ok (.ldc2_w 113, 3) := by decide +kernel
theorem dX6_look_23 : decode cX6_look 23 = .ok (.invokestatic 96, 3) := by decide +kernel
theorem dX6_look_26 : decode cX6_look 26 = .ok (.ifCond .ne 6, 3) := by decide +kernel
theorem dX6_look_29 : decode cX6_look 29 = .ok (.ldc 106, 2) := by decide +kernel
theorem dX6_look_31 : decode cX6_look 31 = .ok (.ireturn, 1) := by decide +kernel
theorem dX6_look_32 : decode cX6_look 32 = .ok (.aload_n 0, 1) := by decide +kernel
theorem dX6_look_33 : decode cX6_look 33 = .ok (.iload_n 1, 1) := by decide +kernel
theorem dX6_look_34 : decode cX6_look 34 = .ok (.putfield 53, 3) := by decide +kernel
theorem dX6_look_37 : decode cX6_look 37 = .ok (.aload_n 0, 1) := by decide +kernel
theorem dX6_look_38 : decode cX6_look 38 = .ok (.iload_n 2, 1) := by decide +kernel
theorem dX6_look_39 : decode cX6_look 39 = .ok (.putfield 57, 3) := by decide +kernel
theorem dX6_look_42 : decode cX6_look 42 = .ok (.aload_n 0, 1) := by decide +kernel
theorem dX6_look_43 : decode cX6_look 43 = .ok (.invokevirtual 130, 3) := by decide +kernel
theorem dX6_look_46 : decode cX6_look 46 = .ok (.ireturn, 1) := by decide +kernel
theorem dX6_told_0 : decode cX6_told 0 = .ok (.aload_n 0, 1) := by decide +kernel
theorem dX6_told_1 : decode cX6_told 1 = .ok (.iconst 0, 1) := by decide +kernel
theorem dX6_told_2 : decode cX6_told 2 = .ok (.putfield 90, 3) := by decide +kernel
theorem dX6_told_5 : decode cX6_told 5 = .ok (.aload_n 0, 1) := by decide +kernel
theorem dX6_told_6 : decode cX6_told 6 = .ok (.iload_n 1, 1) := by decide +kernel
theorem dX6_told_7 : decode cX6_told 7 = .ok (.invokevirtual 108, 3) := by decide +kernel
theorem dX6_told_10 : decode cX6_told 10 = .ok (.ifCond .eq 15, 3) := by decide +kernel
theorem dX6_told_13 : decode cX6_told 13 = .ok (.iload_n 2, 1) := by decide +kernel
theorem dX6_told_14 : decode cX6_told 14 = .ok (.i2l, 1) := by decide +kernel
theorem dX6_told_15 : decode cX6_told 15 = .ok (.lconst 0, 1) := by decide +kernel
theorem dX6_told_16 : decode cX6_told 16 = .ok (.ldc2_w 128, 3) := by decide +kernel
theorem dX6_told_19 : decode cX6_told 19 = .ok (.invokestatic 96, 3) := by decide +kernel
theorem dX6_told_22 : decode cX6_told 22 = .ok (.ifCond .ne 6, 3) := by decide +kernel
theorem dX6_told_25 : decode cX6_told 25 = .ok (.ldc 106, 2) := by decide +kernel
theorem dX6_told_27 : decode cX6_told 27 = .ok (.ireturn, 1) := by decide +kernel
theorem dX6_told_28 : decode cX6_told 28 = .ok (.iload_n 2, 1) := by decide +kernel
theorem dX6_told_29 : decode cX6_told 29 = .ok (.iconst 4, 1) := by decide +kernel
theorem dX6_told_30 : decode cX6_told 30 = .ok (.if_icmp .ge 14, 3) := by decide +kernel
theorem dX6_told_33 : decode cX6_told 33 = .ok (.aload_n 0, 1) := by decide +kernel
theorem dX6_told_34 : decode cX6_told 34 = .ok (.getfield 19, 3) := by decide +kernel
theorem dX6_told_37 : decode cX6_told 37 = .ok (.iconst 4, 1) := by decide +kernel
theorem dX6_told_38 : decode cX6_told 38 = .ok (.iload_n 1, 1) := by decide +kernel
theorem dX6_told_39 : decode cX6_told 39 = .ok (.imul, 1) := by decide +kernel
theorem dX6_told_40 : decode cX6_told 40 = .ok (.iload_n 2, 1) := by decide +kernel
theorem dX6_told_41 : decode cX6_told 41 = .ok (.iadd, 1) := by decide +kernel
theorem dX6_told_42 : decode cX6_told 42 = .ok (.iaload, 1) := by decide +kernel
theorem dX6_told_43 : decode cX6_told 43 = .ok (.ireturn, 1) := by decide +kernel
theorem dX6_told_44 : decode cX6_told 44 = .ok (.iload_n 2, 1) := by decide +kernel
theorem dX6_told_45 : decode cX6_told 45 = .ok (.iconst 4, 1) := by decide +kernel
theorem dX6_told_46 : decode cX6_told 46 = .ok (.if_icmp .ne 12, 3) := by decide +kernel
theorem dX6_told_49 : decode cX6_told 49 = .ok (.aload_n 0, 1) := by decide +kernel
theorem dX6_told_50 : decode cX6_told 50 = .ok (.getfield 22, 3) := by decide +kernel
theorem dX6_told_53 : decode cX6_told 53 = .ok (.iload_n 1, 1) := by decide +kernel
theorem dX6_told_54 : decode cX6_told 54 = .ok (.iaload, 1) := by decide +kernel
theorem dX6_told_55 : decode cX6_told 55 = .ok (.goto 90, 3) := by decide +kernel
theorem dX6_told_58 : decode cX6_told 58 = .ok (.iload_n 2, 1) := by decide +kernel
theorem dX6_told_59 : decode cX6_told 59 = .ok (.iconst 5, 1) := by decide +kernel
theorem dX6_told_60 : decode cX6_told 60 = .ok (.if_icmp .ne 12, 3) := by decide +kernel
theorem dX6_told_63 : decode cX6_told 63 = .ok (.aload_n 0, 1) := by decide +kernel
theorem dX6_told_64 : decode cX6_told 64 = .ok (.getfield 25, 3) := by decide +kernel
theorem dX6_told_67 : decode cX6_told 67 = .ok (.iload_n 1, 1) := by decide +kernel
theorem dX6_told_68 : decode cX6_told 68 = .ok (.iaload, 1) := by decide +kernel
theorem dX6_told_69 : decode cX6_told 69 = .ok (.goto 76, 3) := by decide +kernel
theorem dX6_told_72 : decode cX6_told 72 = .ok (.iload_n 2, 1) := by decide +kernel
theorem dX6_told_73 : decode cX6_told 73 = .ok (.bipush 6, 2) := by decide +kernel
theorem dX6_told_75 : decode cX6_told 75 = .ok (.if_icmp .ne 19, 3) := by decide +kernel
theorem dX6_told_78 : decode cX6_told 78 = .ok (.aload_n 0, 1) := by decide +kernel
theorem dX6_told_79 : decode cX6_told 79 = .ok (.iload_n 1, 1) := by decide +kernel
theorem dX6_told_80 : decode cX6_told 80 = .ok (.invokevirtual 125, 3) := by decide +kernel
theorem dX6_told_83 : decode cX6_told 83 = .ok (.ifCond .eq 7, 3) := by decide +kernel
theorem dX6_told_86 : decode cX6_told 86 = .ok (.iconst 1, 1) := by decide +kernel
theorem dX6_told_87 : decode cX6_told 87 = .ok (.goto 58, 3) := by decide +kernel
theorem dX6_told_90 : decode cX6_told 90 = .ok (.iconst 0, 1) := by decide +kernel
theorem dX6_told_91 : decode cX6_told 91 = .ok (.goto 54, 3) := by decide +kernel
theorem dX6_told_94 : decode cX6_told 94 = .ok (.iload_n 2, 1) := by decide +kernel
theorem dX6_told_95 : decode cX6_told 95 = .ok (.bipush 7, 2) := by decide +kernel
theorem dX6_told_97 : decode cX6_told 97 = .ok (.if_icmp .ne 12, 3) := by decide +kernel
theorem dX6_told_100 : decode cX6_told 100 = .ok (.aload_n 0, 1) := by decide +kernel
theorem dX6_told_101 : decode cX6_told 101 = .ok (.getfield 28, 3) := by decide +kernel
theorem dX6_told_104 : decode cX6_told 104 = .ok (.iload_n 1, 1) := by decide +kernel
theorem dX6_told_105 : decode cX6_told 105 = .ok (.iaload, 1) := by decide +kernel
theorem dX6_told_106 : decode cX6_told 106 = .ok (.goto 39, 3) := by decide +kernel
theorem dX6_told_109 : decode cX6_told 109 = .ok (.iload_n 2, 1) := by decide +kernel
theorem dX6_told_110 : decode cX6_told 110 = .ok (.bipush 8, 2) := by decide +kernel
theorem dX6_told_112 : decode cX6_told 112 = .ok (.if_icmp .ne 12, 3) := by decide +kernel
theorem dX6_told_115 : decode cX6_told 115 = .ok (.aload_n 0, 1) := by decide +kernel
theorem dX6_told_116 : decode cX6_told 116 = .ok (.getfield 31, 3) := by decide +kernel
theorem dX6_told_119 : decode cX6_told 119 = .ok (.iload_n 1, 1) := by decide +kernel
theorem dX6_told_120 : decode cX6_told 120 = .ok (.iaload, 1) := by decide +kernel
theorem dX6_told_121 : decode cX6_told 121 = .ok (.goto 24, 3) := by decide +kernel
theorem dX6_told_124 : decode cX6_told 124 = .ok (.iload_n 2, 1) := by decide +kernel
theorem dX6_told_125 : decode cX6_told 125 = .ok (.bipush 9, 2) := by decide +kernel
theorem dX6_told_127 : decode cX6_told 127 = .ok (.if_icmp .ne 12, 3) := by decide +kernel
theorem dX6_told_130 : decode cX6_told 130 = .ok (.aload_n 0, 1) := by decide +kernel
theorem dX6_told_131 : decode cX6_told 131 = .ok (.getfield 38, 3) := by decide +kernel
theorem dX6_told_134 : decode cX6_told 134 = .ok (.iload_n 1, 1) := by decide +kernel
theorem dX6_told_135 : decode cX6_told 135 = .ok (.iaload, 1) := by decide +kernel
theorem dX6_told_136 : decode cX6_told 136 = .ok (.goto 9, 3) := by decide +kernel
theorem dX6_told_139 : decode cX6_told 139 = .ok (.aload_n 0, 1) := by decide +kernel
theorem dX6_told_140 : decode cX6_told 140 = .ok (.getfield 41, 3) := by decide +kernel
theorem dX6_told_143 : decode cX6_told 143 = .ok (.iload_n 1, 1) := by decide +kernel
theorem dX6_told_144 : decode cX6_told 144 = .ok (.iaload, 1) := by decide +kernel
theorem dX6_told_145 : decode cX6_told 145 = .ok (.ireturn, 1) := by decide +kernel
theorem dX6_lasts_0 : decode cX6_lasts 0 = .ok (.aload_n 0, 1) := by decide +kernel
theorem dX6_lasts_1 : decode cX6_lasts 1 = .ok (.iconst 0, 1) := by decide +kernel
theorem dX6_lasts_2 : decode cX6_lasts 2 = .ok (.putfield 90, 3) := by decide +kernel
theorem dX6_lasts_5 : decode cX6_lasts 5 = .ok (.aload_n 0, 1) := by decide +kernel
theorem dX6_lasts_6 : decode cX6_lasts 6 = .ok (.iload_n 1, 1) := by decide +kernel
theorem dX6_lasts_7 : decode cX6_lasts 7 = .ok (.invokevirtual 108, 3) := by decide +kernel
theorem dX6_lasts_10 : decode cX6_lasts 10 = .ok (.ifCond .eq 15, 3) := by decide +kernel
theorem dX6_lasts_13 : decode cX6_lasts 13 = .ok (.iload_n 2, 1) := by decide +kernel
theorem dX6_lasts_14 : decode cX6_lasts 14 = .ok (.i2l, 1) := by decide +kernel
theorem dX6_lasts_15 : decode cX6_lasts 15 = .ok (.lconst 0, 1) := by decide +kernel
theorem dX6_lasts_16 : decode cX6_lasts 16 = .ok (.ldc2_w 113, 3) := by decide +kernel
theorem dX6_lasts_19 : decode cX6_lasts 19 = .ok (.invokestatic 96, 3) := by decide +kernel
theorem dX6_lasts_22 : decode cX6_lasts 22 = .ok (.ifCond .ne 6, 3) := by decide +kernel
theorem dX6_lasts_25 : decode cX6_lasts 25 = .ok (.ldc 106, 2) := by decide +kernel
theorem dX6_lasts_27 : decode cX6_lasts 27 = .ok (.ireturn, 1) := by decide +kernel
theorem dX6_lasts_28 : decode cX6_lasts 28 = .ok (.aload_n 0, 1) := by decide +kernel
theorem dX6_lasts_29 : decode cX6_lasts 29 = .ok (.getfield 25, 3) := by decide +kernel
theorem dX6_lasts_32 : decode cX6_lasts 32 = .ok (.iload_n 1, 1) := by decide +kernel
theorem dX6_lasts_33 : decode cX6_lasts 33 = .ok (.iaload, 1) := by decide +kernel
theorem dX6_lasts_34 : decode cX6_lasts 34 = .ok (.aload_n 0, 1) := by decide +kernel
theorem dX6_lasts_35 : decode cX6_lasts 35 = .ok (.iload_n 1, 1) := by decide +kernel
theorem dX6_lasts_36 : decode cX6_lasts 36 = .ok (.iload_n 2, 1) := by decide +kernel
theorem dX6_lasts_37 : decode cX6_lasts 37 = .ok (.invokevirtual 122, 3) := by decide +kernel
theorem dX6_lasts_40 : decode cX6_lasts 40 = .ok (.isub, 1) := by decide +kernel
theorem dX6_lasts_41 : decode cX6_lasts 41 = .ok (.istore_n 3, 1) := by decide +kernel
theorem dX6_lasts_42 : decode cX6_lasts 42 = .ok (.iconst 0, 1) := by decide +kernel
theorem dX6_lasts_43 : decode cX6_lasts 43 = .ok (.istore 4, 2) := by decide +kernel
theorem dX6_lasts_45 : decode cX6_lasts 45 = .ok (.iload_n 3, 1) := by decide +kernel
theorem dX6_lasts_46 : decode cX6_lasts 46 = .ok (.ifCond .le 26, 3) := by decide +kernel
theorem dX6_lasts_49 : decode cX6_lasts 49 = .ok (.iload 4, 2) := by decide +kernel
theorem dX6_lasts_51 : decode cX6_lasts 51 = .ok (.sipush 500, 3) := by decide +kernel
theorem dX6_lasts_54 : decode cX6_lasts 54 = .ok (.if_icmp .ge 18, 3) := by decide +kernel
theorem dX6_lasts_57 : decode cX6_lasts 57 = .ok (.iinc 4 1, 3) := by decide +kernel
theorem dX6_lasts_60 : decode cX6_lasts 60 = .ok (.iload_n 3, 1) := by decide +kernel
theorem dX6_lasts_61 : decode cX6_lasts 61 = .ok (.aload_n 0, 1) := by decide +kernel
theorem dX6_lasts_62 : decode cX6_lasts 62 = .ok (.iload_n 1, 1) := by decide +kernel
theorem dX6_lasts_63 : decode cX6_lasts 63 = .ok (.iload_n 2, 1) := by decide +kernel
theorem dX6_lasts_64 : decode cX6_lasts 64 = .ok (.invokevirtual 122, 3) := by decide +kernel
theorem dX6_lasts_67 : decode cX6_lasts 67 = .ok (.isub, 1) := by decide +kernel
theorem dX6_lasts_68 : decode cX6_lasts 68 = .ok (.istore_n 3, 1) := by decide +kernel
theorem dX6_lasts_69 : decode cX6_lasts 69 = .ok (.goto (-24), 3) := by decide +kernel
theorem dX6_lasts_72 : decode cX6_lasts 72 = .ok (.iload 4, 2) := by decide +kernel
theorem dX6_lasts_74 : decode cX6_lasts 74 = .ok (.ireturn, 1) := by decide +kernel
theorem dX6_stock_0 : decode cX6_stock 0 = .ok (.aload_n 0, 1) := by decide +kernel
theorem dX6_stock_1 : decode cX6_stock 1 = .ok (.iconst 0, 1) := by decide +kernel
theorem dX6_stock_2 : decode cX6_stock 2 = .ok (.putfield 90, 3) := by decide +kernel
theorem dX6_stock_5 : decode cX6_stock 5 = .ok (.iload_n 1, 1) := by decide +kernel
theorem dX6_stock_6 : decode cX6_stock 6 = .ok (.ifCond .lt 18, 3) := by decide +kernel
theorem dX6_stock_9 : decode cX6_stock 9 = .ok (.aload_n 0, 1) := by decide +kernel
theorem dX6_stock_10 : decode cX6_stock 10 = .ok (.getfield 134, 3) := by decide +kernel
theorem dX6_stock_13 : decode cX6_stock 13 = .ok (.i2l, 1) := by decide +kernel
theorem dX6_stock_14 : decode cX6_stock 14 = .ok (.iload_n 1, 1) := by decide +kernel
theorem dX6_stock_15 : decode cX6_stock 15 = .ok (.i2l, 1) := by decide +kernel
theorem dX6_stock_16 : decode cX6_stock 16 = .ok (.ladd, 1) := by decide +kernel
theorem dX6_stock_17 : decode cX6_stock 17 = .ok (.ldc2_w 137, 3) := by decide +kernel
theorem dX6_stock_20 : decode cX6_stock 20 = .ok (.lcmp, 1) := by decide +kernel
theorem dX6_stock_21 : decode cX6_stock 21 = .ok (.ifCond .le 6, 3) := by decide +kernel
theorem dX6_stock_24 : decode cX6_stock 24 = .ok (.ldc 106, 2) := by decide +kernel
theorem dX6_stock_26 : decode cX6_stock 26 = .ok (.ireturn, 1) := by decide +kernel
theorem dX6_stock_27 : decode cX6_stock 27 = .ok (.aload_n 0, 1) := by decide +kernel
theorem dX6_stock_28 : decode cX6_stock 28 = .ok (.dup, 1) := by decide +kernel
theorem dX6_stock_29 : decode cX6_stock 29 = .ok (.getfield 134, 3) := by decide +kernel
theorem dX6_stock_32 : decode cX6_stock 32 = .ok (.iload_n 1, 1) := by decide +kernel
theorem dX6_stock_33 : decode cX6_stock 33 = .ok (.iadd, 1) := by decide +kernel
theorem dX6_stock_34 : decode cX6_stock 34 = .ok (.putfield 134, 3) := by decide +kernel
theorem dX6_stock_37 : decode cX6_stock 37 = .ok (.aload_n 0, 1) := by decide +kernel
theorem dX6_stock_38 : decode cX6_stock 38 = .ok (.dup, 1) := by decide +kernel
theorem dX6_stock_39 : decode cX6_stock 39 = .ok (.getfield 139, 3) := by decide +kernel
theorem dX6_stock_42 : decode cX6_stock 42 = .ok (.iload_n 1, 1) := by decide +kernel
theorem dX6_stock_43 : decode cX6_stock 43 = .ok (.i2l, 1) := by decide +kernel
theorem dX6_stock_44 : decode cX6_stock 44 = .ok (.ladd, 1) := by decide +kernel
theorem dX6_stock_45 : decode cX6_stock 45 = .ok (.putfield 139, 3) := by decide +kernel
theorem dX6_stock_48 : decode cX6_stock 48 = .ok (.aload_n 0, 1) := by decide +kernel
theorem dX6_stock_49 : decode cX6_stock 49 = .ok (.getfield 134, 3) := by decide +kernel
theorem dX6_stock_52 : decode cX6_stock 52 = .ok (.ireturn, 1) := by decide +kernel
theorem dX6_lorry_0 : decode cX6_lorry 0 = .ok (.aload_n 0, 1) := by decide +kernel
theorem dX6_lorry_1 : decode cX6_lorry 1 = .ok (.iconst 0, 1) := by decide +kernel
theorem dX6_lorry_2 : decode cX6_lorry 2 = .ok (.putfield 90, 3) := by decide +kernel
theorem dX6_lorry_5 : decode cX6_lorry 5 = .ok (.iload_n 1, 1) := by decide +kernel
theorem dX6_lorry_6 : decode cX6_lorry 6 = .ok (.i2l, 1) := by decide +kernel
theorem dX6_lorry_7 : decode cX6_lorry 7 = .ok (.ldc2_w 102, 3) := by decide +kernel
theorem dX6_lorry_10 : decode cX6_lorry 10 = .ok (.ldc2_w 143, 3) := by decide +kernel
theorem dX6_lorry_13 : decode cX6_lorry 13 = .ok (.invokestatic 96, 3) := by decide +kernel
theorem dX6_lorry_16 : decode cX6_lorry 16 = .ok (.ifCond .ne 6, 3) := by decide +kernel
theorem dX6_lorry_19 : decode cX6_lorry 19 = .ok (.ldc 106, 2) := by decide +kernel
theorem dX6_lorry_21 : decode cX6_lorry 21 = .ok (.ireturn, 1) := by decide +kernel
theorem dX6_lorry_22 : decode cX6_lorry 22 = .ok (.aload_n 0, 1) := by decide +kernel
theorem dX6_lorry_23 : decode cX6_lorry 23 = .ok (.getfield 60, 3) := by decide +kernel
theorem dX6_lorry_26 : decode cX6_lorry 26 = .ok (.istore_n 2, 1) := by decide +kernel
theorem dX6_lorry_27 : decode cX6_lorry 27 = .ok (.aload_n 0, 1) := by decide +kernel
theorem dX6_lorry_28 : decode cX6_lorry 28 = .ok (.iload_n 1, 1) := by decide +kernel
theorem dX6_lorry_29 : decode cX6_lorry 29 = .ok (.putfield 60, 3) := by decide +kernel
theorem dX6_lorry_32 : decode cX6_lorry 32 = .ok (.iload_n 2, 1) := by decide +kernel
theorem dX6_lorry_33 : decode cX6_lorry 33 = .ok (.ireturn, 1) := by decide +kernel
theorem dX6_canGo_0 : decode cX6_canGo 0 = .ok (.aload_n 0, 1) := by decide +kernel
theorem dX6_canGo_1 : decode cX6_canGo 1 = .ok (.iload_n 1, 1) := by decide +kernel
theorem dX6_canGo_2 : decode cX6_canGo 2 = .ok (.aload_n 0, 1) := by decide +kernel
theorem dX6_canGo_3 : decode cX6_canGo 3 = .ok (.getfield 57, 3) := by decide +kernel
theorem dX6_canGo_6 : decode cX6_canGo 6 = .ok (.invokevirtual 122, 3) := by decide +kernel
theorem dX6_canGo_9 : decode cX6_canGo 9 = .ok (.istore_n 2, 1) := by decide +kernel
theorem dX6_canGo_10 : decode cX6_canGo 10 = .ok (.iload_n 2, 1) := by decide +kernel
theorem dX6_canGo_11 : decode cX6_canGo 11 = .ok (.ifCond .ne 9, 3) := by decide +kernel
theorem dX6_canGo_14 : decode cX6_canGo 14 = .ok (.sipush 1000, 3) := by decide +kernel
theorem dX6_canGo_17 : decode cX6_canGo 17 = .ok (.goto 11, 3) := by decide +kernel
theorem dX6_canGo_20 : decode cX6_canGo 20 = .ok (.aload_n 0, 1) := by decide +kernel
theorem dX6_canGo_21 : decode cX6_canGo 21 = .ok (.getfield 25, 3) := by decide +kernel
theorem dX6_canGo_24 : decode cX6_canGo 24 = .ok (.iload_n 1, 1) := by decide +kernel
theorem dX6_canGo_25 : decode cX6_canGo 25 = .ok (.iaload, 1) := by decide +kernel
theorem dX6_canGo_26 : decode cX6_canGo 26 = .ok (.iload_n 2, 1) := by decide +kernel
theorem dX6_canGo_27 : decode cX6_canGo 27 = .ok (.idiv, 1) := by decide +kernel
theorem dX6_canGo_28 : decode cX6_canGo 28 = .ok (.ireturn, 1) := by decide +kernel
theorem dX6_calls_0 : decode cX6_calls 0 = .ok (.aload_n 0, 1) := by decide +kernel
theorem dX6_calls_1 : decode cX6_calls 1 = .ok (.iconst 0, 1) := by decide +kernel
theorem dX6_calls_2 : decode cX6_calls 2 = .ok (.putfield 90, 3) := by decide +kernel
theorem dX6_calls_5 : decode cX6_calls 5 = .ok (.iconst 0, 1) := by decide +kernel
theorem dX6_calls_6 : decode cX6_calls 6 = .ok (.istore_n 1, 1) := by decide +kernel
theorem dX6_calls_7 : decode cX6_calls 7 = .ok (.iconst 0, 1) := by decide +kernel
theorem dX6_calls_8 : decode cX6_calls 8 = .ok (.istore_n 2, 1) := by decide +kernel
theorem dX6_calls_9 : decode cX6_calls 9 = .ok (.iconst 0, 1) := by decide +kernel
theorem dX6_calls_10 : decode cX6_calls 10 = .ok (.istore_n 3, 1) := by decide +kernel
theorem dX6_calls_11 : decode cX6_calls 11 = .ok (.iconst 0, 1) := by decide +kernel
theorem dX6_calls_12 : decode cX6_calls 12 = .ok (.istore 4, 2) := by decide +kernel
theorem dX6_calls_14 : decode cX6_calls 14 = .ok (.iconst 0, 1) := by decide +kernel
theorem dX6_calls_15 : decode cX6_calls 15 = .ok (.istore 5, 2) := by decide +kernel
theorem dX6_calls_17 : decode cX6_calls 17 = .ok (.iload 5, 2) := by decide +kernel
theorem dX6_calls_19 : decode cX6_calls 19 = .ok (.aload_n 0, 1) := by decide +kernel
theorem dX6_calls_20 : decode cX6_calls 20 = .ok (.getfield 93, 3) := by decide +kernel
theorem dX6_calls_23 : decode cX6_calls 23 = .ok (.if_icmp .ge 141, 3) := by decide +kernel
theorem dX6_calls_26 : decode cX6_calls 26 = .ok (.ldc 145, 2) := by decide +kernel
theorem dX6_calls_28 : decode cX6_calls 28 = .ok (.istore 6, 2) := by decide +kernel
theorem dX6_calls_30 : decode cX6_calls 30 = .ok (.iconst 0, 1) := by decide +kernel
theorem dX6_calls_31 : decode cX6_calls 31 = .ok (.istore 7, 2) := by decide +kernel
theorem dX6_calls_33 : decode cX6_calls 33 = .ok (.iload 7, 2) := by decide +kernel
theorem dX6_calls_35 : decode cX6_calls 35 = .ok (.aload_n 0, 1) := by decide +kernel
theorem dX6_calls_36 : decode cX6_calls 36 = .ok (.getfield 93, 3) := by decide +kernel
theorem dX6_calls_39 : decode cX6_calls 39 = .ok (.if_icmp .ge 53, 3) := by decide +kernel
theorem dX6_calls_42 : decode cX6_calls 42 = .ok (.aload_n 0, 1) := by decide +kernel
theorem dX6_calls_43 : decode cX6_calls 43 = .ok (.iload 7, 2) := by decide +kernel
theorem dX6_calls_45 : decode cX6_calls 45 = .ok (.invokevirtual 125, 3) := by decide +kernel
theorem dX6_calls_48 : decode cX6_calls 48 = .ok (.ifCond .eq 38, 3) := by decide +kernel
theorem dX6_calls_51 : decode cX6_calls 51 = .ok (.iload_n 1, 1) := by decide +kernel
theorem dX6_calls_52 : decode cX6_calls 52 = .ok (.iload 7, 2) := by decide +kernel
theorem dX6_calls_54 : decode cX6_calls 54 = .ok (.ishr, 1) := by decide +kernel
theorem dX6_calls_55 : decode cX6_calls 55 = .ok (.iconst 1, 1) := by decide +kernel
theorem dX6_calls_56 : decode cX6_calls 56 = .ok (.iand, 1) := by decide +kernel
theorem dX6_calls_57 : decode cX6_calls 57 = .ok (.ifCond .ne 29, 3) := by decide +kernel
theorem dX6_calls_60 : decode cX6_calls 60 = .ok (.iload 6, 2) := by decide +kernel
theorem dX6_calls_62 : decode cX6_calls 62 = .ok (.ldc 145, 2) := by decide +kernel
theorem dX6_calls_64 : decode cX6_calls 64 = .ok (.if_icmp .eq 18, 3) := by decide +kernel
theorem dX6_calls_67 : decode cX6_calls 67 = .ok (.aload_n 0, 1) := by decide +kernel
theorem dX6_calls_68 : decode cX6_calls 68 = .ok (.iload 7, 2) := by decide +kernel
theorem dX6_calls_70 : decode cX6_calls 70 = .ok (.invokevirtual 146, 3) := by decide +kernel
theorem dX6_calls_73 : decode cX6_calls 73 = .ok (.aload_n 0, 1) := by decide +kernel
theorem dX6_calls_74 : decode cX6_calls 74 = .ok (.iload 6, 2) := by decide +kernel
theorem dX6_calls_76 : decode cX6_calls 76 = .ok (.invokevirtual 146, 3) := by decide +kernel
theorem dX6_calls_79 : decode cX6_calls 79 = .ok (.if_icmp .ge 7, 3) := by decide +kernel
theorem dX6_calls_82 : decode cX6_calls 82 = .ok (.iload 7, 2) := by decide +kernel
theorem dX6_calls_84 : decode cX6_calls 84 = .ok (.istore 6, 2) := by decide +kernel
theorem dX6_calls_86 : decode cX6_calls 86 = .ok (.iinc 7 1, 3) := by decide +kernel
theorem dX6_calls_89 : decode cX6_calls 89 = .ok (.goto (-56), 3) := by decide +kernel
theorem dX6_calls_92 : decode cX6_calls 92 = .ok (.iload 6, 2) := by decide +kernel
theorem dX6_calls_94 : decode cX6_calls 94 = .ok (.ldc 145, 2) := by decide +kernel
theorem dX6_calls_96 : decode cX6_calls 96 = .ok (.if_icmp .ne 5, 3) := by decide +kernel
theorem dX6_calls_99 : decode cX6_calls 99 = .ok (.iload_n 2, 1) := by decide +kernel
theorem dX6_calls_100 : decode cX6_calls 100 = .ok (.ireturn, 1) := by decide +kernel
theorem dX6_calls_101 : decode cX6_calls 101 = .ok (.iload_n 1, 1) := by decide +kernel
theorem dX6_calls_102 : decode cX6_calls 102 = .ok (.iconst 1, 1) := by decide +kernel
theorem dX6_calls_103 : decode cX6_calls 103 = .ok (.iload 6, 2) := by decide +kernel
theorem dX6_calls_105 : decode cX6_calls 105 = .ok (.ishl, 1) := by decide +kernel
theorem dX6_calls_106 : decode cX6_calls 106 = .ok (.ior, 1) := by decide +kernel
theorem dX6_calls_107 : decode cX6_calls 107 = .ok (.istore_n 1, 1) := by decide +kernel
theorem dX6_calls_108 : decode cX6_calls 108 = .ok (.aload_n 0, 1) := by decide +kernel
theorem dX6_calls_109 : decode cX6_calls 109 = .ok (.getfield 16, 3) := by decide +kernel
theorem dX6_calls_112 : decode cX6_calls 112 = .ok (.iload 6, 2) := by decide +kernel
theorem dX6_calls_114 : decode cX6_calls 114 = .ok (.iaload, 1) := by decide +kernel
theorem dX6_calls_115 : decode cX6_calls 115 = .ok (.aload_n 0, 1) := by decide +kernel
theorem dX6_calls_116 : decode cX6_calls 116 = .ok (.getfield 25, 3) := by decide +kernel
theorem dX6_calls_119 : decode cX6_calls 119 = .ok (.iload 6, 2) := by decide +kernel
theorem dX6_calls_121 : decode cX6_calls 121 = .ok (.iaload, 1) := by decide +kernel
theorem dX6_calls_122 : decode cX6_calls 122 = .ok (.isub, 1) := by decide +kernel
theorem dX6_calls_123 : decode cX6_calls 123 = .ok (.istore 7, 2) := by decide +kernel
theorem dX6_calls_125 : decode cX6_calls 125 = .ok (.iload 4, 2) := by decide +kernel
theorem dX6_calls_127 : decode cX6_calls 127 = .ok (.bipush 8, 2) := by decide +kernel
theorem dX6_calls_129 : decode cX6_calls 129 = .ok (.if_icmp .ge 29, 3) := by decide +kernel
theorem dX6_calls_132 : decode cX6_calls 132 = .ok (.iload_n 3, 1) := by decide +kernel
theorem dX6_calls_133 : decode cX6_calls 133 = .ok (.iload 7, 2) := by decide +kernel
theorem dX6_calls_135 : decode cX6_calls 135 = .ok (.iadd, 1) := by decide +kernel
theorem dX6_calls_136 : decode cX6_calls 136 = .ok (.aload_n 0, 1) := by decide +kernel
theorem dX6_calls_137 : decode cX6_calls 137 = .ok (.getfield 60, 3) := by decide +kernel
theorem dX6_calls_140 : decode cX6_calls 140 = .ok (.if_icmp .gt 18, 3) := by decide +kernel
theorem dX6_calls_143 : decode cX6_calls 143 = .ok (.iload_n 2, 1) := by decide +kernel
theorem dX6_calls_144 : decode cX6_calls 144 = .ok (.iconst 1, 1) := by decide +kernel
theorem dX6_calls_145 : decode cX6_calls 145 = .ok (.iload 6, 2) := by decide +kernel
theorem dX6_calls_147 : decode cX6_calls 147 = .ok (.ishl, 1) := by decide +kernel
theorem dX6_calls_148 : decode cX6_calls 148 = .ok (.ior, 1) := by decide +kernel
theorem dX6_calls_149 : decode cX6_calls 149 = .ok (.istore_n 2, 1) := by decide +kernel
theorem dX6_calls_150 : decode cX6_calls 150 = .ok (.iload_n 3, 1) := by decide +kernel
theorem dX6_calls_151 : decode cX6_calls 151 = .ok (.iload 7, 2) := by decide +kernel
theorem dX6_calls_153 : decode cX6_calls 153 = .ok (.iadd, 1) := by decide +kernel
theorem dX6_calls_154 : decode cX6_calls 154 = .ok (.istore_n 3, 1) := by decide +kernel
theorem dX6_calls_155 : decode cX6_calls 155 = .ok (.iinc 4 1, 3) := by decide +kernel
theorem dX6_calls_158 : decode cX6_calls 158 = .ok (.iinc 5 1, 3) := by decide +kernel
theorem dX6_calls_161 : decode cX6_calls 161 = .ok (.goto (-144), 3) := by decide +kernel
theorem dX6_calls_164 : decode cX6_calls 164 = .ok (.iload_n 2, 1) := by decide +kernel
theorem dX6_calls_165 : decode cX6_calls 165 = .ok (.ireturn, 1) := by decide +kernel
theorem dX6_isSet_0 : decode cX6_isSet 0 = .ok (.aload_n 0, 1) := by decide +kernel
theorem dX6_isSet_1 : decode cX6_isSet 1 = .ok (.iconst 0, 1) := by decide +kernel
theorem dX6_isSet_2 : decode cX6_isSet 2 = .ok (.putfield 150, 3) := by decide +kernel
theorem dX6_isSet_5 : decode cX6_isSet 5 = .ok (.iload_n 1, 1) := by decide +kernel
theorem dX6_isSet_6 : decode cX6_isSet 6 = .ok (.ifCond .eq 7, 3) := by decide +kernel
theorem dX6_isSet_9 : decode cX6_isSet 9 = .ok (.iconst 1, 1) := by decide +kernel
theorem dX6_isSet_10 : decode cX6_isSet 10 = .ok (.goto 4, 3) := by decide +kernel
theorem dX6_isSet_13 : decode cX6_isSet 13 = .ok (.iconst 0, 1) := by decide +kernel
theorem dX6_isSet_14 : decode cX6_isSet 14 = .ok (.istore_n 2, 1) := by decide +kernel
theorem dX6_isSet_15 : decode cX6_isSet 15 = .ok (.iconst 0, 1) := by decide +kernel
theorem dX6_isSet_16 : decode cX6_isSet 16 = .ok (.istore_n 3, 1) := by decide +kernel
theorem dX6_isSet_17 : decode cX6_isSet 17 = .ok (.iload_n 3, 1) := by decide +kernel
theorem dX6_isSet_18 : decode cX6_isSet 18 = .ok (.bipush 32, 2) := by decide +kernel
theorem dX6_isSet_20 : decode cX6_isSet 20 = .ok (.if_icmp .ge 69, 3) := by decide +kernel
theorem dX6_isSet_23 : decode cX6_isSet 23 = .ok (.iload_n 1, 1) := by decide +kernel
theorem dX6_isSet_24 : decode cX6_isSet 24 = .ok (.iload_n 3, 1) := by decide +kernel
theorem dX6_isSet_25 : decode cX6_isSet 25 = .ok (.ishr, 1) := by decide +kernel
theorem dX6_isSet_26 : decode cX6_isSet 26 = .ok (.iconst 1, 1) := by decide +kernel
theorem dX6_isSet_27 : decode cX6_isSet 27 = .ok (.iand, 1) := by decide +kernel
theorem dX6_isSet_28 : decode cX6_isSet 28 = .ok (.iconst 1, 1) := by decide +kernel
theorem dX6_isSet_29 : decode cX6_isSet 29 = .ok (.if_icmp .ne 54, 3) := by decide +kernel
theorem dX6_isSet_32 : decode cX6_isSet 32 = .ok (.iload_n 2, 1) := by decide +kernel
theorem dX6_isSet_33 : decode cX6_isSet 33 = .ok (.ifCond .eq 24, 3) := by decide +kernel
theorem dX6_isSet_36 : decode cX6_isSet 36 = .ok (.aload_n 0, 1) := by decide +kernel
theorem dX6_isSet_37 : decode cX6_isSet 37 = .ok (.iload_n 3, 1) := by decide +kernel
theorem dX6_isSet_38 : decode cX6_isSet 38 = .ok (.invokevirtual 108, 3) := by decide +kernel
theorem dX6_isSet_41 : decode cX6_isSet 41 = .ok (.ifCond .eq 16, 3) := by decide +kernel
theorem dX6_isSet_44 : decode cX6_isSet 44 = .ok (.aload_n 0, 1) := by decide +kernel
theorem dX6_isSet_45 : decode cX6_isSet 45 = .ok (.getfield 150, 3) := by decide +kernel
theorem dX6_isSet_48 : decode cX6_isSet 48 = .ok (.bipush 8, 2) := by decide +kernel
theorem dX6_isSet_50 : decode cX6_isSet 50 = .ok (.if_icmp .ge 7, 3) := by decide +kernel
theorem dX6_isSet_53 : decode cX6_isSet 53 = .ok (.iconst 1, 1) := by decide +kernel
theorem dX6_isSet_54 : decode cX6_isSet 54 = .ok (.goto 4, 3) := by decide +kernel
theorem dX6_isSet_57 : decode cX6_isSet 57 = .ok (.iconst 0, 1) := by decide +kernel
theorem dX6_isSet_58 : decode cX6_isSet 58 = .ok (.istore_n 2, 1) := by decide +kernel
theorem dX6_isSet_59 : decode cX6_isSet 59 = .ok (.iload_n 2, 1) := by decide +kernel
theorem dX6_isSet_60 : decode cX6_isSet 60 = .ok (.ifCond .eq 23, 3) := by decide +kernel
theorem dX6_isSet_63 : decode cX6_isSet 63 = .ok (.aload_n 0, 1) := by decide +kernel
theorem dX6_isSet_64 : decode cX6_isSet 64 = .ok (.getfield 66, 3) := by decide +kernel
theorem dX6_isSet_67 : decode cX6_isSet 67 = .ok (.aload_n 0, 1) := by decide +kernel
theorem dX6_isSet_68 : decode cX6_isSet 68 = .ok (.getfield 150, 3) := by decide +kernel
theorem dX6_isSet_71 : decode cX6_isSet 71 = .ok (.iload_n 3, 1) := by decide +kernel
theorem dX6_isSet_72 : decode cX6_isSet 72 = .ok (.iastore, 1) := by decide +kernel
theorem dX6_isSet_73 : decode cX6_isSet 73 = .ok (.aload_n 0, 1) := by decide +kernel
theorem dX6_isSet_74 : decode cX6_isSet 74 = .ok (.dup, 1) := by decide +kernel
theorem dX6_isSet_75 : decode cX6_isSet 75 = .ok (.getfield 150, 3) := by decide +kernel
theorem dX6_isSet_78 : decode cX6_isSet 78 = .ok (.iconst 1, 1) := by decide +kernel
theorem dX6_isSet_79 : decode cX6_isSet 79 = .ok (.iadd, 1) := by decide +kernel
theorem dX6_isSet_80 : decode cX6_isSet 80 = .ok (.putfield 150, 3) := by decide +kernel
theorem dX6_isSet_83 : decode cX6_isSet 83 = .ok (.iinc 3 1, 3) := by decide +kernel
theorem dX6_isSet_86 : decode cX6_isSet 86 = .ok (.goto (-69), 3) := by decide +kernel
theorem dX6_isSet_89 : decode cX6_isSet 89 = .ok (.iload_n 2, 1) := by decide +kernel
theorem dX6_isSet_90 : decode cX6_isSet 90 = .ok (.ireturn, 1) := by decide +kernel
theorem dX6_size_0 : decode cX6_size 0 = .ok (.iload_n 0, 1) := by decide +kernel
theorem dX6_size_1 : decode cX6_size 1 = .ok (.ifCond .ge 8, 3) := by decide +kernel
theorem dX6_size_4 : decode cX6_size 4 = .ok (.iload_n 0, 1) := by decide +kernel
theorem dX6_size_5 : decode cX6_size 5 = .ok (.ineg, 1) := by decide +kernel
theorem dX6_size_6 : decode cX6_size 6 = .ok (.goto 4, 3) := by decide +kernel
theorem dX6_size_9 : decode cX6_size 9 = .ok (.iload_n 0, 1) := by decide +kernel
theorem dX6_size_10 : decode cX6_size 10 = .ok (.ireturn, 1) := by decide +kernel
theorem dX6_fromDepot_0 : decode cX6_fromDepot 0 = .ok (.aload_n 0, 1) := by decide +kernel
theorem dX6_fromDepot_1 : decode cX6_fromDepot 1 = .ok (.getfield 7, 3) := by decide +kernel
theorem dX6_fromDepot_4 : decode cX6_fromDepot 4 = .ok (.aload_n 0, 1) := by decide +kernel
theorem dX6_fromDepot_5 : decode cX6_fromDepot 5 = .ok (.getfield 66, 3) := by decide +kernel
theorem dX6_fromDepot_8 : decode cX6_fromDepot 8 = .ok (.iload_n 1, 1) := by decide +kernel
theorem dX6_fromDepot_9 : decode cX6_fromDepot 9 = .ok (.iaload, 1) := by decide +kernel
theorem dX6_fromDepot_10 : decode cX6_fromDepot 10 = .ok (.iaload, 1) := by decide +kernel
theorem dX6_fromDepot_11 : decode cX6_fromDepot 11 = .ok (.bipush 25, 2) := by decide +kernel
theorem dX6_fromDepot_13 : decode cX6_fromDepot 13 = .ok (.isub, 1) := by decide +kernel
theorem dX6_fromDepot_14 : decode cX6_fromDepot 14 = .ok (.invokestatic 153, 3) := by decide +kernel
theorem dX6_fromDepot_17 : decode cX6_fromDepot 17 = .ok (.aload_n 0, 1) := by decide +kernel
theorem dX6_fromDepot_18 : decode cX6_fromDepot 18 = .ok (.getfield 13, 3) := by decide +kernel
theorem dX6_fromDepot_21 : decode cX6_fromDepot 21 = .ok (.aload_n 0, 1) := by decide +kernel
theorem dX6_fromDepot_22 : decode cX6_fromDepot 22 = .ok (.getfield 66, 3) := by decide +kernel
theorem dX6_fromDepot_25 : decode cX6_fromDepot 25 = .ok (.iload_n 1, 1) := by decide +kernel
theorem dX6_fromDepot_26 : decode cX6_fromDepot 26 = .ok (.iaload, 1) := by decide +kernel
theorem dX6_fromDepot_27 : decode cX6_fromDepot 27 = .ok (.iaload, 1) := by decide +kernel
theorem dX6_fromDepot_28 : decode cX6_fromDepot 28 = .ok (.bipush 25, 2) := by decide +kernel
theorem dX6_fromDepot_30 : decode cX6_fromDepot 30 = .ok (.isub, 1) := by decide +kernel
theorem dX6_fromDepot_31 : decode cX6_fromDepot 31 = .ok (.invokestatic 153, 3) := by decide +kernel
theorem dX6_fromDepot_34 : decode cX6_fromDepot 34 = .ok (.iadd, 1) := by decide +kernel
theorem dX6_fromDepot_35 : decode cX6_fromDepot 35 = .ok (.ireturn, 1) := by decide +kernel
theorem dX6_between_0 : decode cX6_between 0 = .ok (.aload_n 0, 1) := by decide +kernel
theorem dX6_between_1 : decode cX6_between 1 = .ok (.getfield 7, 3) := by decide +kernel
theorem dX6_between_4 : decode cX6_between 4 = .ok (.aload_n 0, 1) := by decide +kernel
theorem dX6_between_5 : decode cX6_between 5 = .ok (.getfield 66, 3) := by decide +kernel
theorem dX6_between_8 : decode cX6_between 8 = .ok (.iload_n 1, 1) := by decide +kernel
theorem dX6_between_9 : decode cX6_between 9 = .ok (.iaload, 1) := by decide +kernel
theorem dX6_between_10 : decode cX6_between 10 = .ok (.iaload, 1) := by decide +kernel
theorem dX6_between_11 : decode cX6_between 11 = .ok (.aload_n 0, 1) := by decide +kernel
theorem dX6_between_12 : decode cX6_between 12 = .ok (.getfield 7, 3) := by decide +kernel
theorem dX6_between_15 : decode cX6_between 15 = .ok (.aload_n 0, 1) := by decide +kernel
theorem dX6_between_16 : decode cX6_between 16 = .ok (.getfield 66, 3) := by decide +kernel
theorem dX6_between_19 : decode cX6_between 19 = .ok (.iload_n 2, 1) := by decide +kernel
theorem dX6_between_20 : decode cX6_between 20 = .ok (.iaload, 1) := by decide +kernel
theorem dX6_between_21 : decode cX6_between 21 = .ok (.iaload, 1) := by decide +kernel
theorem dX6_between_22 : decode cX6_between 22 = .ok (.isub, 1) := by decide +kernel
theorem dX6_between_23 : decode cX6_between 23 = .ok (.invokestatic 153, 3) := by decide +kernel
theorem dX6_between_26 : decode cX6_between 26 = .ok (.aload_n 0, 1) := by decide +kernel
theorem dX6_between_27 : decode cX6_between 27 = .ok (.getfield 13, 3) := by decide +kernel
theorem dX6_between_30 : decode cX6_between 30 = .ok (.aload_n 0, 1) := by decide +kernel
theorem dX6_between_31 : decode cX6_between 31 = .ok (.getfield 66, 3) := by decide +kernel
theorem dX6_between_34 : decode cX6_between 34 = .ok (.iload_n 1, 1) := by decide +kernel
theorem dX6_between_35 : decode cX6_between 35 = .ok (.iaload, 1) := by decide +kernel
theorem dX6_between_36 : decode cX6_between 36 = .ok (.iaload, 1) := by decide +kernel
theorem dX6_between_37 : decode cX6_between 37 = .ok (.aload_n 0, 1) := by decide +kernel
theorem dX6_between_38 : decode cX6_between 38 = .ok (.getfield 13, 3) := by decide +kernel
theorem dX6_between_41 : decode cX6_between 41 = .ok (.aload_n 0, 1) := by decide +kernel
theorem dX6_between_42 : decode cX6_between 42 = .ok (.getfield 66, 3) := by decide +kernel
theorem dX6_between_45 : decode cX6_between 45 = .ok (.iload_n 2, 1) := by decide +kernel
theorem dX6_between_46 : decode cX6_between 46 = .ok (.iaload, 1) := by decide +kernel
theorem dX6_between_47 : decode cX6_between 47 = .ok (.iaload, 1) := by decide +kernel
theorem dX6_between_48 : decode cX6_between 48 = .ok (.isub, 1) := by decide +kernel
theorem dX6_between_49 : decode cX6_between 49 = .ok (.invokestatic 153, 3) := by decide +kernel
theorem dX6_between_52 : decode cX6_between 52 = .ok (.iadd, 1) := by decide +kernel
theorem dX6_between_53 : decode cX6_between 53 = .ok (.ireturn, 1) := by decide +kernel
theorem dX6_findWays_0 : decode cX6_findWays 0 = .ok (.iconst 0, 1) := by decide +kernel
theorem dX6_findWays_1 : decode cX6_findWays 1 = .ok (.istore_n 1, 1) := by decide +kernel
theorem dX6_findWays_2 : decode cX6_findWays 2 = .ok (.iload_n 1, 1) := by decide +kernel
theorem dX6_findWays_3 : decode cX6_findWays 3 = .ok (.iconst 1, 1) := by decide +kernel
theorem dX6_findWays_4 : decode cX6_findWays 4 = .ok (.aload_n 0, 1) := by decide +kernel
theorem dX6_findWays_5 : decode cX6_findWays 5 = .ok (.getfield 150, 3) := by decide +kernel
theorem dX6_findWays_8 : decode cX6_findWays 8 = .ok (.ishl, 1) := by decide +kernel
theorem dX6_findWays_9 : decode cX6_findWays 9 = .ok (.if_icmp .ge 128, 3) := by decide +kernel
theorem dX6_findWays_12 : decode cX6_findWays 12 = .ok (.iconst 0, 1) := by decide +kernel
theorem dX6_findWays_13 : decode cX6_findWays 13 = .ok (.istore_n 2, 1) := by decide +kernel
theorem dX6_findWays_14 : decode cX6_findWays 14 = .ok (.iload_n 2, 1) := by decide +kernel
theorem dX6_findWays_15 : decode cX6_findWays 15 = .ok (.aload_n 0, 1) := by decide +kernel
theorem dX6_findWays_16 : decode cX6_findWays 16 = .ok (.getfield 150, 3) := by decide +kernel
theorem dX6_findWays_19 : decode cX6_findWays 19 = .ok (.if_icmp .ge 112, 3) := by decide +kernel
theorem dX6_findWays_22 : decode cX6_findWays 22 = .ok (.iload_n 1, 1) := by decide +kernel
theorem dX6_findWays_23 : decode cX6_findWays 23 = .ok (.ifCond .ne 11, 3) := by decide +kernel
theorem dX6_findWays_26 : decode cX6_findWays 26 = .ok (.aload_n 0, 1) := by decide +kernel
theorem dX6_findWays_27 : decode cX6_findWays 27 = .ok (.iload_n 2, 1) := by decide +kernel
theorem dX6_findWays_28 : decode cX6_findWays 28 = .ok (.invokevirtual 156, 3) := by decide +kernel
theorem dX6_findWays_31 : decode cX6_findWays 31 = .ok (.goto 5, 3) := by decide +kernel
theorem dX6_findWays_34 : decode cX6_findWays 34 = .ok (.ldc 145, 2) := by decide +kernel
theorem dX6_findWays_36 : decode cX6_findWays 36 = .ok (.istore_n 3, 1) := by decide +kernel
theorem dX6_findWays_37 : decode cX6_findWays 37 = .ok (.iconst 0, 1) := by decide +kernel
theorem dX6_findWays_38 : decode cX6_findWays 38 = .ok (.istore 4, 2) := by decide +kernel
theorem dX6_findWays_40 : decode cX6_findWays 40 = .ok (.iload 4, 2) := by decide +kernel
theorem dX6_findWays_42 : decode cX6_findWays 42 = .ok (.aload_n 0, 1) := by decide +kernel
theorem dX6_findWays_43 : decode cX6_findWays 43 = .ok (.getfield 150, 3) := by decide +kernel
theorem dX6_findWays_46 : decode cX6_findWays 46 = .ok (.if_icmp .ge 67, 3) := by decide +kernel
theorem dX6_findWays_49 : decode cX6_findWays 49 = .ok (.iload_n 1, 1) := by decide +kernel
theorem dX6_findWays_50 : decode cX6_findWays 50 = .ok (.iload 4, 2) := by decide +kernel
theorem dX6_findWays_52 : decode cX6_findWays 52 = .ok (.ishr, 1) := by decide +kernel
theorem dX6_findWays_53 : decode cX6_findWays 53 = .ok (.iconst 1, 1) := by decide +kernel
theorem dX6_findWays_54 : decode cX6_findWays 54 = .ok (.iand, 1) := by decide +kernel
theorem dX6_findWays_55 : decode cX6_findWays 55 = .ok (.iconst 1, 1) := by decide +kernel
theorem dX6_findWays_56 : decode cX6_findWays 56 = .ok (.if_icmp .ne 51, 3) := by decide +kernel
theorem dX6_findWays_59 : decode cX6_findWays 59 = .ok (.aload_n 0, 1) := by decide +kernel
theorem dX6_findWays_60 : decode cX6_findWays 60 = .ok (.iload_n 2, 1) := by decide +kernel
theorem dX6_findWays_61 : decode cX6_findWays 61 = .ok (.iload 4, 2) := by decide +kernel
theorem dX6_findWays_63 : decode cX6_findWays 63 = .ok (.invokevirtual 159, 3) := by decide +kernel
theorem dX6_findWays_66 : decode cX6_findWays 66 = .ok (.aload_n 0, 1) := by decide +kernel
theorem dX6_findWays_67 : decode cX6_findWays 67 = .ok (.getfield 69, 3) := by decide +kernel
theorem dX6_findWays_70 : decode cX6_findWays 70 = .ok (.bipush 8, 2) := by decide +kernel
theorem dX6_findWays_72 : decode cX6_findWays 72 = .ok (.iload_n 1, 1) := by decide +kernel
theorem dX6_findWays_73 : decode cX6_findWays 73 = .ok (.iconst 1, 1) := by decide +kernel
theorem dX6_findWays_74 : decode cX6_findWays 74 = .ok (.iload 4, 2) := by decide +kernel
theorem dX6_findWays_76 : decode cX6_findWays 76 = .ok (.ishl, 1) := by decide +kernel
theorem dX6_findWays_77 : decode cX6_findWays 77 = .ok (.iconst (-1), 1) := by decide +kernel
theorem dX6_findWays_78 : decode cX6_findWays 78 = .ok (.ixor, 1) := by decide +kernel
theorem dX6_findWays_79 : decode cX6_findWays 79 = .ok (.iand, 1) := by decide +kernel
theorem dX6_findWays_80 : decode cX6_findWays 80 = .ok (.imul, 1) := by decide +kernel
theorem dX6_findWays_81 : decode cX6_findWays 81 = .ok (.iload 4, 2) := by decide +kernel
theorem dX6_findWays_83 : decode cX6_findWays 83 = .ok (.iadd, 1) := by decide +kernel
theorem dX6_findWays_84 : decode cX6_findWays 84 = .ok (.iaload, 1) := by decide +kernel
theorem dX6_findWays_85 : decode cX6_findWays 85 = .ok (.iadd, 1) := by decide +kernel
theorem dX6_findWays_86 : decode cX6_findWays 86 = .ok (.istore 5, 2) := by decide +kernel
theorem dX6_findWays_88 : decode cX6_findWays 88 = .ok (.iload_n 3, 1) := by decide +kernel
theorem dX6_findWays_89 : decode cX6_findWays 89 = .ok (.ldc 145, 2) := by decide +kernel
theorem dX6_findWays_91 : decode cX6_findWays 91 = .ok (.if_icmp .eq 9, 3) := by decide +kernel
theorem dX6_findWays_94 : decode cX6_findWays 94 = .ok (.iload 5, 2) := by decide +kernel
theorem dX6_findWays_96 : decode cX6_findWays 96 = .ok (.iload_n 3, 1) := by decide +kernel
theorem dX6_findWays_97 : decode cX6_findWays 97 = .ok (.if_icmp .ge 8, 3) := by decide +kernel
theorem dX6_findWays_100 : decode cX6_findWays 100 = .ok (.iload 5, 2) := by decide +kernel
theorem dX6_findWays_102 : decode cX6_findWays 102 = .ok (.goto 4, 3) := by decide +kernel
theorem dX6_findWays_105 : decode cX6_findWays 105 = .ok (.iload_n 3, 1) := by decide +kernel
theorem dX6_findWays_106 : decode cX6_findWays 106 = .ok (.istore_n 3, 1) := by decide +kernel
theorem dX6_findWays_107 : decode cX6_findWays 107 = .ok (.iinc 4 1, 3) := by decide +kernel
theorem dX6_findWays_110 : decode cX6_findWays 110 = .ok (.goto (-70), 3) := by decide +kernel
theorem dX6_findWays_113 : decode cX6_findWays 113 = .ok (.aload_n 0, 1) := by decide +kernel
theorem dX6_findWays_114 : decode cX6_findWays 114 = .ok (.getfield 69, 3) := by decide +kernel
theorem dX6_findWays_117 : decode cX6_findWays 117 = .ok (.bipush 8, 2) := by decide +kernel
theorem dX6_findWays_119 : decode cX6_findWays 119 = .ok (.iload_n 1, 1) := by decide +kernel
theorem dX6_findWays_120 : decode cX6_findWays 120 = .ok (.imul, 1) := by decide +kernel
theorem dX6_findWays_121 : decode cX6_findWays 121 = .ok (.iload_n 2, 1) := by decide +kernel
theorem dX6_findWays_122 : decode cX6_findWays 122 = .ok (.iadd, 1) := by decide +kernel
theorem dX6_findWays_123 : decode cX6_findWays 123 = .ok (.iload_n 3, 1) := by decide +kernel
theorem dX6_findWays_124 : decode cX6_findWays 124 = .ok (.iastore, 1) := by decide +kernel
theorem dX6_findWays_125 : decode cX6_findWays 125 = .ok (.iinc 2 1, 3) := by decide +kernel
theorem dX6_findWays_128 : decode cX6_findWays 128 = .ok (.goto (-114), 3) := by decide +kernel
theorem dX6_findWays_131 : decode cX6_findWays 131 = .ok (.iinc 1 1, 3) := by decide +kernel
theorem dX6_findWays_134 : decode cX6_findWays 134 = .ok (.goto (-132), 3) := by decide +kernel
theorem dX6_findWays_137 : decode cX6_findWays 137 = .ok (.return_, 1) := by decide +kernel
theorem dX6_nextOf_0 : decode cX6_nextOf 0 = .ok (.ldc 145, 2) := by decide +kernel
theorem dX6_nextOf_2 : decode cX6_nextOf 2 = .ok (.istore_n 3, 1) := by decide +kernel
theorem dX6_nextOf_3 : decode cX6_nextOf 3 = .ok (.iconst 0, 1) := by decide +kernel
theorem dX6_nextOf_4 : decode cX6_nextOf 4 = .ok (.istore 4, 2) := by decide +kernel
theorem dX6_nextOf_6 : decode cX6_nextOf 6 = .ok (.iconst 0, 1) := by decide +kernel
theorem dX6_nextOf_7 : decode cX6_nextOf 7 = .ok (.istore 5, 2) := by decide +kernel
theorem dX6_nextOf_9 : decode cX6_nextOf 9 = .ok (.iload 5, 2) := by decide +kernel
theorem dX6_nextOf_11 : decode cX6_nextOf 11 = .ok (.aload_n 0, 1) := by decide +kernel
theorem dX6_nextOf_12 : decode cX6_nextOf 12 = .ok (.getfield 150, 3) := by decide +kernel
theorem dX6_nextOf_15 : decode cX6_nextOf 15 = .ok (.if_icmp .ge 83, 3) := by decide +kernel
theorem dX6_nextOf_18 : decode cX6_nextOf 18 = .ok (.iload_n 2, 1) := by decide +kernel
theorem dX6_nextOf_19 : decode cX6_nextOf 19 = .ok (.iload 5, 2) := by decide +kernel
theorem dX6_nextOf_21 : decode cX6_nextOf 21 = .ok (.ishr, 1) := by decide +kernel
theorem dX6_nextOf_22 : decode cX6_nextOf 22 = .ok (.iconst 1, 1) := by decide +kernel
theorem dX6_nextOf_23 : decode cX6_nextOf 23 = .ok (.iand, 1) := by decide +kernel
theorem dX6_nextOf_24 : decode cX6_nextOf 24 = .ok (.iconst 1, 1) := by decide +kernel
theorem dX6_nextOf_25 : decode cX6_nextOf 25 = .ok (.if_icmp .ne 67, 3) := by decide +kernel
theorem dX6_nextOf_28 : decode cX6_nextOf 28 = .ok (.iload_n 1, 1) := by decide +kernel
theorem dX6_nextOf_29 : decode cX6_nextOf 29 = .ok (.ldc 145, 2) := by decide +kernel
theorem dX6_nextOf_31 : decode cX6_nextOf 31 = .ok (.if_icmp .ne 12, 3) := by decide +kernel
theorem dX6_nextOf_34 : decode cX6_nextOf 34 = .ok (.aload_n 0, 1) := by decide +kernel
theorem dX6_nextOf_35 : decode cX6_nextOf 35 = .ok (.iload 5, 2) := by decide +kernel
theorem dX6_nextOf_37 : decode cX6_nextOf 37 = .ok (.invokevirtual 156, 3) := by decide +kernel
theorem dX6_nextOf_40 : decode cX6_nextOf 40 = .ok (.goto 10, 3) := by decide +kernel
theorem dX6_nextOf_43 : decode cX6_nextOf 43 = .ok (.aload_n 0, 1) := by decide +kernel
theorem dX6_nextOf_44 : decode cX6_nextOf 44 = .ok (.iload_n 1, 1) := by decide +kernel
theorem dX6_nextOf_45 : decode cX6_nextOf 45 = .ok (.iload 5, 2) := by decide +kernel
theorem dX6_nextOf_47 : decode cX6_nextOf 47 = .ok (.invokevirtual 159, 3) := by decide +kernel
theorem dX6_nextOf_50 : decode cX6_nextOf 50 = .ok (.aload_n 0, 1) := by decide +kernel
theorem dX6_nextOf_51 : decode cX6_nextOf 51 = .ok (.getfield 69, 3) := by decide +kernel
theorem dX6_nextOf_54 : decode cX6_nextOf 54 = .ok (.bipush 8, 2) := by decide +kernel
theorem dX6_nextOf_56 : decode cX6_nextOf 56 = .ok (.iload_n 2, 1) := by decide +kernel
theorem dX6_nextOf_57 : decode cX6_nextOf 57 = .ok (.iconst 1, 1) := by decide +kernel
theorem dX6_nextOf_58 : decode cX6_nextOf 58 = .ok (.iload 5, 2) := by decide +kernel
theorem dX6_nextOf_60 : decode cX6_nextOf 60 = .ok (.ishl, 1) := by decide +kernel
theorem dX6_nextOf_61 : decode cX6_nextOf 61 = .ok (.iconst (-1), 1) := by decide +kernel
theorem dX6_nextOf_62 : decode cX6_nextOf 62 = .ok (.ixor, 1) := by decide +kernel
theorem dX6_nextOf_63 : decode cX6_nextOf 63 = .ok (.iand, 1) := by decide +kernel
theorem dX6_nextOf_64 : decode cX6_nextOf 64 = .ok (.imul, 1) := by decide +kernel
theorem dX6_nextOf_65 : decode cX6_nextOf 65 = .ok (.iload 5, 2) := by decide +kernel
theorem dX6_nextOf_67 : decode cX6_nextOf 67 = .ok (.iadd, 1) := by decide +kernel
theorem dX6_nextOf_68 : decode cX6_nextOf 68 = .ok (.iaload, 1) := by decide +kernel
theorem dX6_nextOf_69 : decode cX6_nextOf 69 = .ok (.iadd, 1) := by decide +kernel
theorem dX6_nextOf_70 : decode cX6_nextOf 70 = .ok (.istore 6, 2) := by decide +kernel
theorem dX6_nextOf_72 : decode cX6_nextOf 72 = .ok (.iload_n 3, 1) := by decide +kernel
theorem dX6_nextOf_73 : decode cX6_nextOf 73 = .ok (.ldc 145, 2) := by decide +kernel
theorem dX6_nextOf_75 : decode cX6_nextOf 75 = .ok (.if_icmp .eq 10, 3) := by decide +kernel
theorem dX6_nextOf_78 : decode cX6_nextOf 78 = .ok (.iload 6, 2) := by decide +kernel
theorem dX6_nextOf_80 : decode cX6_nextOf 80 = .ok (.iload 4, 2) := by decide +kernel
theorem dX6_nextOf_82 : decode cX6_nextOf 82 = .ok (.if_icmp .ge 10, 3) := by decide +kernel
theorem dX6_nextOf_85 : decode cX6_nextOf 85 = .ok (.iload 5, 2) := by decide +kernel
theorem dX6_nextOf_87 : decode cX6_nextOf 87 = .ok (.istore_n 3, 1) := by decide +kernel
theorem dX6_nextOf_88 : decode cX6_nextOf 88 = .ok (.iload 6, 2) := by decide +kernel
theorem dX6_nextOf_90 : decode cX6_nextOf 90 = .ok (.istore 4, 2) := by decide +kernel
theorem dX6_nextOf_92 : decode cX6_nextOf 92 = .ok (.iinc 5 1, 3) := by decide +kernel
theorem dX6_nextOf_95 : decode cX6_nextOf 95 = .ok (.goto (-86), 3) := by decide +kernel
theorem dX6_nextOf_98 : decode cX6_nextOf 98 = .ok (.iload_n 3, 1) := by decide +kernel
theorem dX6_nextOf_99 : decode cX6_nextOf 99 = .ok (.ireturn, 1) := by decide +kernel
theorem dX6_round_0 : decode cX6_round 0 = .ok (.aload_n 0, 1) := by decide +kernel
theorem dX6_round_1 : decode cX6_round 1 = .ok (.iconst 0, 1) := by decide +kernel
theorem dX6_round_2 : decode cX6_round 2 = .ok (.putfield 90, 3) := by decide +kernel
theorem dX6_round_5 : decode cX6_round 5 = .ok (.aload_n 0, 1) := by decide +kernel
theorem dX6_round_6 : decode cX6_round 6 = .ok (.iload_n 1, 1) := by decide +kernel
theorem dX6_round_7 : decode cX6_round 7 = .ok (.invokevirtual 162, 3) := by decide +kernel
theorem dX6_round_10 : decode cX6_round 10 = .ok (.ifCond .eq 15, 3) := by decide +kernel
theorem dX6_round_13 : decode cX6_round 13 = .ok (.iload_n 2, 1) := by decide +kernel
theorem dX6_round_14 : decode cX6_round 14 = .ok (.i2l, 1) := by decide +kernel
theorem dX6_round_15 : decode cX6_round 15 = .ok (.lconst 0, 1) := by decide +kernel
theorem dX6_round_16 : decode cX6_round 16 = .ok (.ldc2_w 165, 3) := by decide +kernel
theorem dX6_round_19 : decode cX6_round 19 = .ok (.invokestatic 96, 3) := by decide +kernel
theorem dX6_round_22 : decode cX6_round 22 = .ok (.ifCond .ne 6, 3) := by decide +kernel
theorem dX6_round_25 : decode cX6_round 25 = .ok (.ldc 106, 2) := by decide +kernel
theorem dX6_round_27 : decode cX6_round 27 = .ok (.ireturn, 1) := by decide +kernel
theorem dX6_round_28 : decode cX6_round 28 = .ok (.iconst 0, 1) := by decide +kernel
theorem dX6_round_29 : decode cX6_round 29 = .ok (.istore_n 3, 1) := by decide +kernel
theorem dX6_round_30 : decode cX6_round 30 = .ok (.iconst 0, 1) := by decide +kernel
theorem dX6_round_31 : decode cX6_round 31 = .ok (.istore 4, 2) := by decide +kernel
theorem dX6_round_33 : decode cX6_round 33 = .ok (.iload 4, 2) := by decide +kernel
theorem dX6_round_35 : decode cX6_round 35 = .ok (.aload_n 0, 1) := by decide +kernel
theorem dX6_round_36 : decode cX6_round 36 = .ok (.getfield 150, 3) := by decide +kernel
theorem dX6_round_39 : decode cX6_round 39 = .ok (.if_icmp .ge 37, 3) := by decide +kernel
theorem dX6_round_42 : decode cX6_round 42 = .ok (.iload_n 3, 1) := by decide +kernel
theorem dX6_round_43 : decode cX6_round 43 = .ok (.aload_n 0, 1) := by decide +kernel
theorem dX6_round_44 : decode cX6_round 44 = .ok (.getfield 16, 3) := by decide +kernel
theorem dX6_round_47 : decode cX6_round 47 = .ok (.aload_n 0, 1) := by decide +kernel
theorem dX6_round_48 : decode cX6_round 48 = .ok (.getfield 66, 3) := by decide +kernel
theorem dX6_round_51 : decode cX6_round 51 = .ok (.iload 4, 2) := by decide +kernel
theorem dX6_round_53 : decode cX6_round 53 = .ok (.iaload, 1) := by decide +kernel
theorem dX6_round_54 : decode cX6_round 54 = .ok (.iaload, 1) := by decide +kernel
theorem dX6_round_55 : decode cX6_round 55 = .ok (.aload_n 0, 1) := by decide +kernel
theorem dX6_round_56 : decode cX6_round 56 = .ok (.getfield 25, 3) := by decide +kernel
theorem dX6_round_59 : decode cX6_round 59 = .ok (.aload_n 0, 1) := by decide +kernel
theorem dX6_round_60 : decode cX6_round 60 = .ok (.getfield 66, 3) := by decide +kernel
theorem dX6_round_63 : decode cX6_round 63 = .ok (.iload 4, 2) := by decide +kernel
theorem dX6_round_65 : decode cX6_round 65 = .ok (.iaload, 1) := by decide +kernel
theorem dX6_round_66 : decode cX6_round 66 = .ok (.iaload, 1) := by decide +kernel
theorem dX6_round_67 : decode cX6_round 67 = .ok (.isub, 1) := by decide +kernel
theorem dX6_round_68 : decode cX6_round 68 = .ok (.iadd, 1) := by decide +kernel
theorem dX6_round_69 : decode cX6_round 69 = .ok (.istore_n 3, 1) := by decide +kernel
theorem dX6_round_70 : decode cX6_round 70 = .ok (.iinc 4 1, 3) := by decide +kernel
theorem dX6_round_73 : decode cX6_round 73 = .ok (.goto (-40), 3) := by decide +kernel
theorem dX6_round_76 : decode cX6_round 76 = .ok (.iload_n 2, 1) := by decide +kernel
theorem dX6_round_77 : decode cX6_round 77 = .ok (.ifCond .le 34, 3) := by decide +kernel
theorem dX6_round_80 : decode cX6_round 80 = .ok (.iload_n 2, 1) := by decide +kernel
theorem dX6_round_81 : decode cX6_round 81 = .ok (.iconst 2, 1) := by decide +kernel
theorem dX6_round_82 : decode cX6_round 82 = .ok (.if_icmp .ne 7, 3) := by decide +kernel
theorem dX6_round_85 : decode cX6_round 85 = .ok (.iload_n 3, 1) := by decide +kernel
theorem dX6_round_86 : decode cX6_round 86 = .ok (.goto 24, 3) := by decide +kernel
theorem dX6_round_89 : decode cX6_round 89 = .ok (.iload_n 3, 1) := by decide +kernel
theorem dX6_round_90 : decode cX6_round 90 = .ok (.aload_n 0, 1) := by decide +kernel
theorem dX6_round_91 : decode cX6_round 91 = .ok (.getfield 60, 3) := by decide +kernel
theorem dX6_round_94 : decode cX6_round 94 = .ok (.if_icmp .gt 15, 3) := by decide +kernel
theorem dX6_round_97 : decode cX6_round 97 = .ok (.iload_n 3, 1) := by decide +kernel
theorem dX6_round_98 : decode cX6_round 98 = .ok (.aload_n 0, 1) := by decide +kernel
theorem dX6_round_99 : decode cX6_round 99 = .ok (.getfield 134, 3) := by decide +kernel
theorem dX6_round_102 : decode cX6_round 102 = .ok (.if_icmp .gt 7, 3) := by decide +kernel
theorem dX6_round_105 : decode cX6_round 105 = .ok (.iconst 1, 1) := by decide +kernel
theorem dX6_round_106 : decode cX6_round 106 = .ok (.goto 4, 3) := by decide +kernel
theorem dX6_round_109 : decode cX6_round 109 = .ok (.iconst 0, 1) := by decide +kernel
theorem dX6_round_110 : decode cX6_round 110 = .ok (.ireturn, 1) := by decide +kernel
theorem dX6_round_111 : decode cX6_round 111 = .ok (.aload_n 0, 1) := by decide +kernel
theorem dX6_round_112 : decode cX6_round 112 = .ok (.invokevirtual 167, 3) := by decide +kernel
theorem dX6_round_115 : decode cX6_round 115 = .ok (.iconst 1, 1) := by decide +kernel
theorem dX6_round_116 : decode cX6_round 116 = .ok (.aload_n 0, 1) := by decide +kernel
theorem dX6_round_117 : decode cX6_round 117 = .ok (.getfield 150, 3) := by decide +kernel
theorem dX6_round_120 : decode cX6_round 120 = .ok (.ishl, 1) := by decide +kernel
theorem dX6_round_121 : decode cX6_round 121 = .ok (.iconst 1, 1) := by decide +kernel
theorem dX6_round_122 : decode cX6_round 122 = .ok (.isub, 1) := by decide +kernel
theorem dX6_round_123 : decode cX6_round 123 = .ok (.istore 4, 2) := by decide +kernel
theorem dX6_round_125 : decode cX6_round 125 = .ok (.aload_n 0, 1) := by decide +kernel
theorem dX6_round_126 : decode cX6_round 126 = .ok (.ldc 145, 2) := by decide +kernel
theorem dX6_round_128 : decode cX6_round 128 = .ok (.iload 4, 2) := by decide +kernel
theorem dX6_round_130 : decode cX6_round 130 = .ok (.invokevirtual 170, 3) := by decide +kernel
theorem dX6_round_133 : decode cX6_round 133 = .ok (.istore 5, 2) := by decide +kernel
theorem dX6_round_135 : decode cX6_round 135 = .ok (.aload_n 0, 1) := by decide +kernel
theorem dX6_round_136 : decode cX6_round 136 = .ok (.iload 5, 2) := by decide +kernel
theorem dX6_round_138 : decode cX6_round 138 = .ok (.invokevirtual 156, 3) := by decide +kernel
theorem dX6_round_141 : decode cX6_round 141 = .ok (.aload_n 0, 1) := by decide +kernel
theorem dX6_round_142 : decode cX6_round 142 = .ok (.getfield 69, 3) := by decide +kernel
theorem dX6_round_145 : decode cX6_round 145 = .ok (.bipush 8, 2) := by decide +kernel
theorem dX6_round_147 : decode cX6_round 147 = .ok (.iload 4, 2) := by decide +kernel
theorem dX6_round_149 : decode cX6_round 149 = .ok (.iconst 1, 1) := by decide +kernel
theorem dX6_round_150 : decode cX6_round 150 = .ok (.iload 5, 2) := by decide +kernel
theorem dX6_round_152 : decode cX6_round 152 = .ok (.ishl, 1) := by decide +kernel
theorem dX6_round_153 : decode cX6_round 153 = .ok (.iconst (-1), 1) := by decide +kernel
theorem dX6_round_154 : decode cX6_round 154 = .ok (.ixor, 1) := by decide +kernel
theorem dX6_round_155 : decode cX6_round 155 = .ok (.iand, 1) := by decide +kernel
theorem dX6_round_156 : decode cX6_round 156 = .ok (.imul, 1) := by decide +kernel
theorem dX6_round_157 : decode cX6_round 157 = .ok (.iload 5, 2) := by decide +kernel
theorem dX6_round_159 : decode cX6_round 159 = .ok (.iadd, 1) := by decide +kernel
theorem dX6_round_160 : decode cX6_round 160 = .ok (.iaload, 1) := by decide +kernel
theorem dX6_round_161 : decode cX6_round 161 = .ok (.iadd, 1) := by decide +kernel
theorem dX6_round_162 : decode cX6_round 162 = .ok (.ireturn, 1) := by decide +kernel
theorem dX6_stop_0 : decode cX6_stop 0 = .ok (.aload_n 0, 1) := by decide +kernel
theorem dX6_stop_1 : decode cX6_stop 1 = .ok (.iconst 0, 1) := by decide +kernel
theorem dX6_stop_2 : decode cX6_stop 2 = .ok (.putfield 90, 3) := by decide +kernel
theorem dX6_stop_5 : decode cX6_stop 5 = .ok (.aload_n 0, 1) := by decide +kernel
theorem dX6_stop_6 : decode cX6_stop 6 = .ok (.iload_n 1, 1) := by decide +kernel
theorem dX6_stop_7 : decode cX6_stop 7 = .ok (.invokevirtual 162, 3) := by decide +kernel
theorem dX6_stop_10 : decode cX6_stop 10 = .ok (.ifCond .ne 6, 3) := by decide +kernel
theorem dX6_stop_13 : decode cX6_stop 13 = .ok (.ldc 106, 2) := by decide +kernel
theorem dX6_stop_15 : decode cX6_stop 15 = .ok (.ireturn, 1) := by decide +kernel
theorem dX6_stop_16 : decode cX6_stop 16 = .ok (.iload_n 2, 1) := by decide +kernel
theorem dX6_stop_17 : decode cX6_stop 17 = .ok (.i2l, 1) := by decide +kernel
theorem dX6_stop_18 : decode cX6_stop 18 = .ok (.lconst 0, 1) := by decide +kernel
theorem dX6_stop_19 : decode cX6_stop 19 = .ok (.aload_n 0, 1) := by decide +kernel
theorem dX6_stop_20 : decode cX6_stop 20 = .ok (.getfield 150, 3) := by decide +kernel
theorem dX6_stop_23 : decode cX6_stop 23 = .ok (.iconst 1, 1) := by decide +kernel
theorem dX6_stop_24 : decode cX6_stop 24 = .ok (.isub, 1) := by decide +kernel
theorem dX6_stop_25 : decode cX6_stop 25 = .ok (.i2l, 1) := by decide +kernel
theorem dX6_stop_26 : decode cX6_stop 26 = .ok (.invokestatic 96, 3) := by decide +kernel
theorem dX6_stop_29 : decode cX6_stop 29 = .ok (.ifCond .ne 6, 3) := by decide +kernel
theorem dX6_stop_32 : decode cX6_stop 32 = .ok (.ldc 145, 2) := by decide +kernel
theorem dX6_stop_34 : decode cX6_stop 34 = .ok (.ireturn, 1) := by decide +kernel
theorem dX6_stop_35 : decode cX6_stop 35 = .ok (.aload_n 0, 1) := by decide +kernel
theorem dX6_stop_36 : decode cX6_stop 36 = .ok (.invokevirtual 167, 3) := by decide +kernel
theorem dX6_stop_39 : decode cX6_stop 39 = .ok (.iconst 1, 1) := by decide +kernel
theorem dX6_stop_40 : decode cX6_stop 40 = .ok (.aload_n 0, 1) := by decide +kernel
theorem dX6_stop_41 : decode cX6_stop 41 = .ok (.getfield 150, 3) := by decide +kernel
theorem dX6_stop_44 : decode cX6_stop 44 = .ok (.ishl, 1) := by decide +kernel
theorem dX6_stop_45 : decode cX6_stop 45 = .ok (.iconst 1, 1) := by decide +kernel
theorem dX6_stop_46 : decode cX6_stop 46 = .ok (.isub, 1) := by decide +kernel
theorem dX6_stop_47 : decode cX6_stop 47 = .ok (.istore_n 3, 1) := by decide +kernel
theorem dX6_stop_48 : decode cX6_stop 48 = .ok (.ldc 145, 2) := by decide +kernel
theorem dX6_stop_50 : decode cX6_stop 50 = .ok (.istore 4, 2) := by decide +kernel
theorem dX6_stop_52 : decode cX6_stop 52 = .ok (.iconst 0, 1) := by decide +kernel
theorem dX6_stop_53 : decode cX6_stop 53 = .ok (.istore 5, 2) := by decide +kernel
theorem dX6_stop_55 : decode cX6_stop 55 = .ok (.iload 5, 2) := by decide +kernel
theorem dX6_stop_57 : decode cX6_stop 57 = .ok (.iload_n 2, 1) := by decide +kernel
theorem dX6_stop_58 : decode cX6_stop 58 = .ok (.if_icmp .gt 27, 3) := by decide +kernel
theorem dX6_stop_61 : decode cX6_stop 61 = .ok (.aload_n 0, 1) := by decide +kernel
theorem dX6_stop_62 : decode cX6_stop 62 = .ok (.iload 4, 2) := by decide +kernel
theorem dX6_stop_64 : decode cX6_stop 64 = .ok (.iload_n 3, 1) := by decide +kernel
theorem dX6_stop_65 : decode cX6_stop 65 = .ok (.invokevirtual 170, 3) := by decide +kernel
theorem dX6_stop_68 : decode cX6_stop 68 = .ok (.istore 4, 2) := by decide +kernel
theorem dX6_stop_70 : decode cX6_stop 70 = .ok (.iload_n 3, 1) := by decide +kernel
theorem dX6_stop_71 : decode cX6_stop 71 = .ok (.iconst 1, 1) := by decide +kernel
theorem dX6_stop_72 : decode cX6_stop 72 = .ok (.iload 4, 2) := by decide +kernel
theorem dX6_stop_74 : decode cX6_stop 74 = .ok (.ishl, 1) := by decide +kernel
theorem dX6_stop_75 : decode cX6_stop 75 = .ok (.iconst (-1), 1) := by decide +kernel
theorem dX6_stop_76 : decode cX6_stop 76 = .ok (.ixor, 1) := by decide +kernel
theorem dX6_stop_77 : decode cX6_stop 77 = .ok (.iand, 1) := by decide +kernel
theorem dX6_stop_78 : decode cX6_stop 78 = .ok (.istore_n 3, 1) := by decide +kernel
theorem dX6_stop_79 : decode cX6_stop 79 = .ok (.iinc 5 1, 3) := by decide +kernel
theorem dX6_stop_82 : decode cX6_stop 82 = .ok (.goto (-27), 3) := by decide +kernel
theorem dX6_stop_85 : decode cX6_stop 85 = .ok (.aload_n 0, 1) := by decide +kernel
theorem dX6_stop_86 : decode cX6_stop 86 = .ok (.getfield 66, 3) := by decide +kernel
theorem dX6_stop_89 : decode cX6_stop 89 = .ok (.iload 4, 2) := by decide +kernel
theorem dX6_stop_91 : decode cX6_stop 91 = .ok (.iaload, 1) := by decide +kernel
theorem dX6_stop_92 : decode cX6_stop 92 = .ok (.ireturn, 1) := by decide +kernel
theorem dX6_most_0 : decode cX6_most 0 = .ok (.iload_n 0, 1) := by decide +kernel
theorem dX6_most_1 : decode cX6_most 1 = .ok (.iload_n 1, 1) := by decide +kernel
theorem dX6_most_2 : decode cX6_most 2 = .ok (.if_icmp .le 7, 3) := by decide +kernel
theorem dX6_most_5 : decode cX6_most 5 = .ok (.iload_n 0, 1) := by decide +kernel
theorem dX6_most_6 : decode cX6_most 6 = .ok (.goto 4, 3) := by decide +kernel
theorem dX6_most_9 : decode cX6_most 9 = .ok (.iload_n 1, 1) := by decide +kernel
theorem dX6_most_10 : decode cX6_most 10 = .ok (.ireturn, 1) := by decide +kernel
theorem dX6_least_0 : decode cX6_least 0 = .ok (.iload_n 0, 1) := by decide +kernel
theorem dX6_least_1 : decode cX6_least 1 = .ok (.iload_n 1, 1) := by decide +kernel
theorem dX6_least_2 : decode cX6_least 2 = .ok (.if_icmp .ge 7, 3) := by decide +kernel
theorem dX6_least_5 : decode cX6_least 5 = .ok (.iload_n 0, 1) := by decide +kernel
theorem dX6_least_6 : decode cX6_least 6 = .ok (.goto 4, 3) := by decide +kernel
theorem dX6_least_9 : decode cX6_least 9 = .ok (.iload_n 1, 1) := by decide +kernel
theorem dX6_least_10 : decode cX6_least 10 = .ok (.ireturn, 1) := by decide +kernel
theorem dX6_roundedUp_0 : decode cX6_roundedUp 0 = .ok (.iload_n 0, 1) := by decide +kernel
theorem dX6_roundedUp_1 : decode cX6_roundedUp 1 = .ok (.ifCond .gt 7, 3) := by decide +kernel
theorem dX6_roundedUp_4 : decode cX6_roundedUp 4 = .ok (.iconst 0, 1) := by decide +kernel
theorem dX6_roundedUp_5 : decode cX6_roundedUp 5 = .ok (.goto 10, 3) := by decide +kernel
theorem dX6_roundedUp_8 : decode cX6_roundedUp 8 = .ok (.iload_n 0, 1) := by decide +kernel
theorem dX6_roundedUp_9 : decode cX6_roundedUp 9 = .ok (.iload_n 1, 1) := by decide +kernel
theorem dX6_roundedUp_10 : decode cX6_roundedUp 10 = .ok (.iadd, 1) := by decide +kernel
theorem dX6_roundedUp_11 : decode cX6_roundedUp 11 = .ok (.iconst 1, 1) := by decide +kernel
theorem dX6_roundedUp_12 : decode cX6_roundedUp 12 = .ok (.isub, 1) := by decide +kernel
theorem dX6_roundedUp_13 : decode cX6_roundedUp 13 = .ok (.iload_n 1, 1) := by decide +kernel
theorem dX6_roundedUp_14 : decode cX6_roundedUp 14 = .ok (.idiv, 1) := by decide +kernel
theorem dX6_roundedUp_15 : decode cX6_roundedUp 15 = .ok (.ireturn, 1) := by decide +kernel
theorem dX6_cut_0 : decode cX6_cut 0 = .ok (.iload_n 0, 1) := by decide +kernel
theorem dX6_cut_1 : decode cX6_cut 1 = .ok (.ifCond .gt 7, 3) := by decide +kernel
theorem dX6_cut_4 : decode cX6_cut 4 = .ok (.iconst 0, 1) := by decide +kernel
theorem dX6_cut_5 : decode cX6_cut 5 = .ok (.goto 6, 3) := by decide +kernel
theorem dX6_cut_8 : decode cX6_cut 8 = .ok (.iload_n 0, 1) := by decide +kernel
theorem dX6_cut_9 : decode cX6_cut 9 = .ok (.iload_n 1, 1) := by decide +kernel
theorem dX6_cut_10 : decode cX6_cut 10 = .ok (.idiv, 1) := by decide +kernel
theorem dX6_cut_11 : decode cX6_cut 11 = .ok (.ireturn, 1) := by decide +kernel
theorem dX6_makeNarrower_0 : decode cX6_makeNarrower 0 = .ok (.aload_n 0, 1) := by decide +kernel
theorem dX6_makeNarrower_1 : decode cX6_makeNarrower 1 = .ok (.getfield 38, 3) := by decide +kernel
theorem dX6_makeNarrower_4 : decode cX6_makeNarrower 4 = .ok (.iload_n 1, 1) := by decide +kernel
theorem dX6_makeNarrower_5 : decode cX6_makeNarrower 5 = .ok (.iaload, 1) := by decide +kernel
theorem dX6_makeNarrower_6 : decode cX6_makeNarrower 6 = .ok (.istore_n 3, 1) := by decide +kernel
theorem dX6_makeNarrower_7 : decode cX6_makeNarrower 7 = .ok (.aload_n 0, 1) := by decide +kernel
theorem dX6_makeNarrower_8 : decode cX6_makeNarrower 8 = .ok (.getfield 41, 3) := by decide +kernel
theorem dX6_makeNarrower_11 : decode cX6_makeNarrower 11 = .ok (.iload_n 1, 1) := by decide +kernel
theorem dX6_makeNarrower_12 : decode cX6_makeNarrower 12 = .ok (.iaload, 1) := by decide +kernel
theorem dX6_makeNarrower_13 : decode cX6_makeNarrower 13 = .ok (.istore 4, 2) := by decide +kernel
theorem dX6_makeNarrower_15 : decode cX6_makeNarrower 15 = .ok (.aload_n 0, 1) := by decide +kernel
theorem dX6_makeNarrower_16 : decode cX6_makeNarrower 16 = .ok (.getfield 19, 3) := by decide +kernel
theorem dX6_makeNarrower_19 : decode cX6_makeNarrower 19 = .ok (.iconst 4, 1) := by decide +kernel
theorem dX6_makeNarrower_20 : decode cX6_makeNarrower 20 = .ok (.iload_n 1, 1) := by decide +kernel
theorem dX6_makeNarrower_21 : decode cX6_makeNarrower 21 = .ok (.imul, 1) := by decide +kernel
theorem dX6_makeNarrower_22 : decode cX6_makeNarrower 22 = .ok (.iaload, 1) := by decide +kernel
theorem dX6_makeNarrower_23 : decode cX6_makeNarrower 23 = .ok (.istore 5, 2) := by decide +kernel
theorem dX6_makeNarrower_25 : decode cX6_makeNarrower 25 = .ok (.aload_n 0, 1) := by decide +kernel
theorem dX6_makeNarrower_26 : decode cX6_makeNarrower 26 = .ok (.getfield 19, 3) := by decide +kernel
theorem dX6_makeNarrower_29 : decode cX6_makeNarrower 29 = .ok (.iconst 4, 1) := by decide +kernel
theorem dX6_makeNarrower_30 : decode cX6_makeNarrower 30 = .ok (.iload_n 1, 1) := by decide +kernel
theorem dX6_makeNarrower_31 : decode cX6_makeNarrower 31 = .ok (.imul, 1) := by decide +kernel
theorem dX6_makeNarrower_32 : decode cX6_makeNarrower 32 = .ok (.iconst 1, 1) := by decide +kernel
theorem dX6_makeNarrower_33 : decode cX6_makeNarrower 33 = .ok (.iadd, 1) := by decide +kernel
theorem dX6_makeNarrower_34 : decode cX6_makeNarrower 34 = .ok (.iaload, 1) := by decide +kernel
theorem dX6_makeNarrower_35 : decode cX6_makeNarrower 35 = .ok (.istore 6, 2) := by decide +kernel
theorem dX6_makeNarrower_37 : decode cX6_makeNarrower 37 = .ok (.aload_n 0, 1) := by decide +kernel
theorem dX6_makeNarrower_38 : decode cX6_makeNarrower 38 = .ok (.getfield 19, 3) := by decide +kernel
theorem dX6_makeNarrower_41 : decode cX6_makeNarrower 41 = .ok (.iconst 4, 1) := by decide +kernel
theorem dX6_makeNarrower_42 : decode cX6_makeNarrower 42 = .ok (.iload_n 1, 1) := by decide +kernel
theorem dX6_makeNarrower_43 : decode cX6_makeNarrower 43 = .ok (.imul, 1) := by decide +kernel
theorem dX6_makeNarrower_44 : decode cX6_makeNarrower 44 = .ok (.iconst 2, 1) := by decide +kernel
theorem dX6_makeNarrower_45 : decode cX6_makeNarrower 45 = .ok (.iadd, 1) := by decide +kernel
theorem dX6_makeNarrower_46 : decode cX6_makeNarrower 46 = .ok (.iaload, 1) := by decide +kernel
theorem dX6_makeNarrower_47 : decode cX6_makeNarrower 47 = .ok (.istore 7, 2) := by decide +kernel
theorem dX6_makeNarrower_49 : decode cX6_makeNarrower 49 = .ok (.aload_n 0, 1) := by decide +kernel
theorem dX6_makeNarrower_50 : decode cX6_makeNarrower 50 = .ok (.getfield 19, 3) := by decide +kernel
theorem dX6_makeNarrower_53 : decode cX6_makeNarrower 53 = .ok (.iconst 4, 1) := by decide +kernel
theorem dX6_makeNarrower_54 : decode cX6_makeNarrower 54 = .ok (.iload_n 1, 1) := by decide +kernel
theorem dX6_makeNarrower_55 : decode cX6_makeNarrower 55 = .ok (.imul, 1) := by decide +kernel
theorem dX6_makeNarrower_56 : decode cX6_makeNarrower 56 = .ok (.iconst 3, 1) := by decide +kernel
theorem dX6_makeNarrower_57 : decode cX6_makeNarrower 57 = .ok (.iadd, 1) := by decide +kernel
theorem dX6_makeNarrower_58 : decode cX6_makeNarrower 58 = .ok (.iaload, 1) := by decide +kernel
theorem dX6_makeNarrower_59 : decode cX6_makeNarrower 59 = .ok (.istore 8, 2) := by decide +kernel
theorem dX6_makeNarrower_61 : decode cX6_makeNarrower 61 = .ok (.iload 5, 2) := by decide +kernel
theorem dX6_makeNarrower_63 : decode cX6_makeNarrower 63 = .ok (.iload 7, 2) := by decide +kernel
theorem dX6_makeNarrower_65 : decode cX6_makeNarrower 65 = .ok (.iload_n 2, 1) := by decide +kernel
theorem dX6_makeNarrower_66 : decode cX6_makeNarrower 66 = .ok (.iload 4, 2) := by decide +kernel
theorem dX6_makeNarrower_68 : decode cX6_makeNarrower 68 = .ok (.iload 6, 2) := by decide +kernel
theorem dX6_makeNarrower_70 : decode cX6_makeNarrower 70 = .ok (.imul, 1) := by decide +kernel
theorem dX6_makeNarrower_71 : decode cX6_makeNarrower 71 = .ok (.isub, 1) := by decide +kernel
theorem dX6_makeNarrower_72 : decode cX6_makeNarrower 72 = .ok (.iload_n 3, 1) := by decide +kernel
theorem dX6_makeNarrower_73 : decode cX6_makeNarrower 73 = .ok (.invokestatic 173, 3) := by decide +kernel
theorem dX6_makeNarrower_76 : decode cX6_makeNarrower 76 = .ok (.invokestatic 176, 3) := by decide +kernel
theorem dX6_makeNarrower_79 : decode cX6_makeNarrower 79 = .ok (.invokestatic 178, 3) := by decide +kernel
theorem dX6_makeNarrower_82 : decode cX6_makeNarrower 82 = .ok (.istore 7, 2) := by decide +kernel
theorem dX6_makeNarrower_84 : decode cX6_makeNarrower 84 = .ok (.iload 4, 2) := by decide +kernel
theorem dX6_makeNarrower_86 : decode cX6_makeNarrower 86 = .ok (.ifCond .le 26, 3) := by decide +kernel
theorem dX6_makeNarrower_89 : decode cX6_makeNarrower 89 = .ok (.iload 6, 2) := by decide +kernel
theorem dX6_makeNarrower_91 : decode cX6_makeNarrower 91 = .ok (.iload 8, 2) := by decide +kernel
theorem dX6_makeNarrower_93 : decode cX6_makeNarrower 93 = .ok (.iload_n 2, 1) := by decide +kernel
theorem dX6_makeNarrower_94 : decode cX6_makeNarrower 94 = .ok (.iload_n 3, 1) := by decide +kernel
theorem dX6_makeNarrower_95 : decode cX6_makeNarrower 95 = .ok (.iload 5, 2) := by decide +kernel
theorem dX6_makeNarrower_97 : decode cX6_makeNarrower 97 = .ok (.imul, 1) := by decide +kernel
theorem dX6_makeNarrower_98 : decode cX6_makeNarrower 98 = .ok (.isub, 1) := by decide +kernel
theorem dX6_makeNarrower_99 : decode cX6_makeNarrower 99 = .ok (.iload 4, 2) := by decide +kernel
theorem dX6_makeNarrower_101 : decode cX6_makeNarrower 101 = .ok (.invokestatic 173, 3) := by decide +kernel
theorem dX6_makeNarrower_104 : decode cX6_makeNarrower 104 = .ok (.invokestatic 176, 3) := by decide +kernel
theorem dX6_makeNarrower_107 : decode cX6_makeNarrower 107 = .ok (.invokestatic 178, 3) := by decide +kernel
theorem dX6_makeNarrower_110 : decode cX6_makeNarrower 110 = .ok (.istore 8, 2) := by decide +kernel
theorem dX6_makeNarrower_112 : decode cX6_makeNarrower 112 = .ok (.iload 7, 2) := by decide +kernel
theorem dX6_makeNarrower_114 : decode cX6_makeNarrower 114 = .ok (.iload 5, 2) := by decide +kernel
theorem dX6_makeNarrower_116 : decode cX6_makeNarrower 116 = .ok (.iload_n 2, 1) := by decide +kernel
theorem dX6_makeNarrower_117 : decode cX6_makeNarrower 117 = .ok (.iload 4, 2) := by decide +kernel
theorem dX6_makeNarrower_119 : decode cX6_makeNarrower 119 = .ok (.iload 8, 2) := by decide +kernel
theorem dX6_makeNarrower_121 : decode cX6_makeNarrower 121 = .ok (.imul, 1) := by decide +kernel
theorem dX6_makeNarrower_122 : decode cX6_makeNarrower 122 = .ok (.isub, 1) := by decide +kernel
theorem dX6_makeNarrower_123 : decode cX6_makeNarrower 123 = .ok (.iload_n 3, 1) := by decide +kernel
theorem dX6_makeNarrower_124 : decode cX6_makeNarrower 124 = .ok (.invokestatic 181, 3) := by decide +kernel
theorem dX6_makeNarrower_127 : decode cX6_makeNarrower 127 = .ok (.invokestatic 178, 3) := by decide +kernel
theorem dX6_makeNarrower_130 : decode cX6_makeNarrower 130 = .ok (.invokestatic 176, 3) := by decide +kernel
theorem dX6_makeNarrower_133 : decode cX6_makeNarrower 133 = .ok (.istore 5, 2) := by decide +kernel
theorem dX6_makeNarrower_135 : decode cX6_makeNarrower 135 = .ok (.iload 4, 2) := by decide +kernel
theorem dX6_makeNarrower_137 : decode cX6_makeNarrower 137 = .ok (.ifCond .le 26, 3) := by decide +kernel
theorem dX6_makeNarrower_140 : decode cX6_makeNarrower 140 = .ok (.iload 8, 2) := by decide +kernel
theorem dX6_makeNarrower_142 : decode cX6_makeNarrower 142 = .ok (.iload 6, 2) := by decide +kernel
theorem dX6_makeNarrower_144 : decode cX6_makeNarrower 144 = .ok (.iload_n 2, 1) := by decide +kernel
theorem dX6_makeNarrower_145 : decode cX6_makeNarrower 145 = .ok (.iload_n 3, 1) := by decide +kernel
theorem dX6_makeNarrower_146 : decode cX6_makeNarrower 146 = .ok (.iload 7, 2) := by decide +kernel
theorem dX6_makeNarrower_148 : decode cX6_makeNarrower 148 = .ok (.imul, 1) := by decide +kernel
theorem dX6_makeNarrower_149 : decode cX6_makeNarrower 149 = .ok (.isub, 1) := by decide +kernel
theorem dX6_makeNarrower_150 : decode cX6_makeNarrower 150 = .ok (.iload 4, 2) := by decide +kernel
theorem dX6_makeNarrower_152 : decode cX6_makeNarrower 152 = .ok (.invokestatic 181, 3) := by decide +kernel
theorem dX6_makeNarrower_155 : decode cX6_makeNarrower 155 = .ok (.invokestatic 178, 3) := by decide +kernel
theorem dX6_makeNarrower_158 : decode cX6_makeNarrower 158 = .ok (.invokestatic 176, 3) := by decide +kernel
theorem dX6_makeNarrower_161 : decode cX6_makeNarrower 161 = .ok (.istore 6, 2) := by decide +kernel
theorem dX6_makeNarrower_163 : decode cX6_makeNarrower 163 = .ok (.aload_n 0, 1) := by decide +kernel
theorem dX6_makeNarrower_164 : decode cX6_makeNarrower 164 = .ok (.getfield 19, 3) := by decide +kernel
theorem dX6_makeNarrower_167 : decode cX6_makeNarrower 167 = .ok (.iconst 4, 1) := by decide +kernel
theorem dX6_makeNarrower_168 : decode cX6_makeNarrower 168 = .ok (.iload_n 1, 1) := by decide +kernel
theorem dX6_makeNarrower_169 : decode cX6_makeNarrower 169 = .ok (.imul, 1) := by decide +kernel
theorem dX6_makeNarrower_170 : decode cX6_makeNarrower 170 = .ok (.iload 5, 2) := by decide +kernel
theorem dX6_makeNarrower_172 : decode cX6_makeNarrower 172 = .ok (.iastore, 1) := by decide +kernel
theorem dX6_makeNarrower_173 : decode cX6_makeNarrower 173 = .ok (.aload_n 0, 1) := by decide +kernel
theorem dX6_makeNarrower_174 : decode cX6_makeNarrower 174 = .ok (.getfield 19, 3) := by decide +kernel
theorem dX6_makeNarrower_177 : decode cX6_makeNarrower 177 = .ok (.iconst 4, 1) := by decide +kernel
theorem dX6_makeNarrower_178 : decode cX6_makeNarrower 178 = .ok (.iload_n 1, 1) := by decide +kernel
theorem dX6_makeNarrower_179 : decode cX6_makeNarrower 179 = .ok (.imul, 1) := by decide +kernel
theorem dX6_makeNarrower_180 : decode cX6_makeNarrower 180 = .ok (.iconst 1, 1) := by decide +kernel
theorem dX6_makeNarrower_181 : decode cX6_makeNarrower 181 = .ok (.iadd, 1) := by decide +kernel
theorem dX6_makeNarrower_182 : decode cX6_makeNarrower 182 = .ok (.iload 6, 2) := by decide +kernel
theorem dX6_makeNarrower_184 : decode cX6_makeNarrower 184 = .ok (.iastore, 1) := by decide +kernel
theorem dX6_makeNarrower_185 : decode cX6_makeNarrower 185 = .ok (.aload_n 0, 1) := by decide +kernel
theorem dX6_makeNarrower_186 : decode cX6_makeNarrower 186 = .ok (.getfield 19, 3) := by decide +kernel
theorem dX6_makeNarrower_189 : decode cX6_makeNarrower 189 = .ok (.iconst 4, 1) := by decide +kernel
theorem dX6_makeNarrower_190 : decode cX6_makeNarrower 190 = .ok (.iload_n 1, 1) := by decide +kernel
theorem dX6_makeNarrower_191 : decode cX6_makeNarrower 191 = .ok (.imul, 1) := by decide +kernel
theorem dX6_makeNarrower_192 : decode cX6_makeNarrower 192 = .ok (.iconst 2, 1) := by decide +kernel
theorem dX6_makeNarrower_193 : decode cX6_makeNarrower 193 = .ok (.iadd, 1) := by decide +kernel
theorem dX6_makeNarrower_194 : decode cX6_makeNarrower 194 = .ok (.iload 7, 2) := by decide +kernel
theorem dX6_makeNarrower_196 : decode cX6_makeNarrower 196 = .ok (.iastore, 1) := by decide +kernel
theorem dX6_makeNarrower_197 : decode cX6_makeNarrower 197 = .ok (.aload_n 0, 1) := by decide +kernel
theorem dX6_makeNarrower_198 : decode cX6_makeNarrower 198 = .ok (.getfield 19, 3) := by decide +kernel
theorem dX6_makeNarrower_201 : decode cX6_makeNarrower 201 = .ok (.iconst 4, 1) := by decide +kernel
theorem dX6_makeNarrower_202 : decode cX6_makeNarrower 202 = .ok (.iload_n 1, 1) := by decide +kernel
theorem dX6_makeNarrower_203 : decode cX6_makeNarrower 203 = .ok (.imul, 1) := by decide +kernel
theorem dX6_makeNarrower_204 : decode cX6_makeNarrower 204 = .ok (.iconst 3, 1) := by decide +kernel
theorem dX6_makeNarrower_205 : decode cX6_makeNarrower 205 = .ok (.iadd, 1) := by decide +kernel
theorem dX6_makeNarrower_206 : decode cX6_makeNarrower 206 = .ok (.iload 8, 2) := by decide +kernel
theorem dX6_makeNarrower_208 : decode cX6_makeNarrower 208 = .ok (.iastore, 1) := by decide +kernel
theorem dX6_makeNarrower_209 : decode cX6_makeNarrower 209 = .ok (.return_, 1) := by decide +kernel
theorem dX6_cost_0 : decode cX6_cost 0 = .ok (.aload_n 0, 1) := by decide +kernel
theorem dX6_cost_1 : decode cX6_cost 1 = .ok (.getfield 44, 3) := by decide +kernel
theorem dX6_cost_4 : decode cX6_cost 4 = .ok (.iload_n 1, 1) := by decide +kernel
theorem dX6_cost_5 : decode cX6_cost 5 = .ok (.iaload, 1) := by decide +kernel
theorem dX6_cost_6 : decode cX6_cost 6 = .ok (.iconst 1, 1) := by decide +kernel
theorem dX6_cost_7 : decode cX6_cost 7 = .ok (.if_icmp .ne 19, 3) := by decide +kernel
theorem dX6_cost_10 : decode cX6_cost 10 = .ok (.iload_n 2, 1) := by decide +kernel
theorem dX6_cost_11 : decode cX6_cost 11 = .ok (.aload_n 0, 1) := by decide +kernel
theorem dX6_cost_12 : decode cX6_cost 12 = .ok (.getfield 63, 3) := by decide +kernel
theorem dX6_cost_15 : decode cX6_cost 15 = .ok (.aload_n 0, 1) := by decide +kernel
theorem dX6_cost_16 : decode cX6_cost 16 = .ok (.getfield 50, 3) := by decide +kernel
theorem dX6_cost_19 : decode cX6_cost 19 = .ok (.iload_n 1, 1) := by decide +kernel
theorem dX6_cost_20 : decode cX6_cost 20 = .ok (.iaload, 1) := by decide +kernel
theorem dX6_cost_21 : decode cX6_cost 21 = .ok (.invokestatic 176, 3) := by decide +kernel
theorem dX6_cost_24 : decode cX6_cost 24 = .ok (.imul, 1) := by decide +kernel
theorem dX6_cost_25 : decode cX6_cost 25 = .ok (.ireturn, 1) := by decide +kernel
theorem dX6_cost_26 : decode cX6_cost 26 = .ok (.aload_n 0, 1) := by decide +kernel
theorem dX6_cost_27 : decode cX6_cost 27 = .ok (.getfield 44, 3) := by decide +kernel
theorem dX6_cost_30 : decode cX6_cost 30 = .ok (.iload_n 1, 1) := by decide +kernel
theorem dX6_cost_31 : decode cX6_cost 31 = .ok (.iaload, 1) := by decide +kernel
theorem dX6_cost_32 : decode cX6_cost 32 = .ok (.iconst 2, 1) := by decide +kernel
theorem dX6_cost_33 : decode cX6_cost 33 = .ok (.if_icmp .ne 16, 3) := by decide +kernel
theorem dX6_cost_36 : decode cX6_cost 36 = .ok (.iload_n 2, 1) := by decide +kernel
theorem dX6_cost_37 : decode cX6_cost 37 = .ok (.aload_n 0, 1) := by decide +kernel
theorem dX6_cost_38 : decode cX6_cost 38 = .ok (.getfield 47, 3) := by decide +kernel
theorem dX6_cost_41 : decode cX6_cost 41 = .ok (.iload_n 1, 1) := by decide +kernel
theorem dX6_cost_42 : decode cX6_cost 42 = .ok (.iaload, 1) := by decide +kernel
theorem dX6_cost_43 : decode cX6_cost 43 = .ok (.invokestatic 176, 3) := by decide +kernel
theorem dX6_cost_46 : decode cX6_cost 46 = .ok (.goto 4, 3) := by decide +kernel
theorem dX6_cost_49 : decode cX6_cost 49 = .ok (.iconst 0, 1) := by decide +kernel
theorem dX6_cost_50 : decode cX6_cost 50 = .ok (.istore_n 3, 1) := by decide +kernel
theorem dX6_cost_51 : decode cX6_cost 51 = .ok (.iload_n 3, 1) := by decide +kernel
theorem dX6_cost_52 : decode cX6_cost 52 = .ok (.aload_n 0, 1) := by decide +kernel
theorem dX6_cost_53 : decode cX6_cost 53 = .ok (.getfield 50, 3) := by decide +kernel
theorem dX6_cost_56 : decode cX6_cost 56 = .ok (.iload_n 1, 1) := by decide +kernel
theorem dX6_cost_57 : decode cX6_cost 57 = .ok (.iaload, 1) := by decide +kernel
theorem dX6_cost_58 : decode cX6_cost 58 = .ok (.imul, 1) := by decide +kernel
theorem dX6_cost_59 : decode cX6_cost 59 = .ok (.iload_n 2, 1) := by decide +kernel
theorem dX6_cost_60 : decode cX6_cost 60 = .ok (.iload_n 3, 1) := by decide +kernel
theorem dX6_cost_61 : decode cX6_cost 61 = .ok (.isub, 1) := by decide +kernel
theorem dX6_cost_62 : decode cX6_cost 62 = .ok (.aload_n 0, 1) := by decide +kernel
theorem dX6_cost_63 : decode cX6_cost 63 = .ok (.getfield 63, 3) := by decide +kernel
theorem dX6_cost_66 : decode cX6_cost 66 = .ok (.imul, 1) := by decide +kernel
theorem dX6_cost_67 : decode cX6_cost 67 = .ok (.iadd, 1) := by decide +kernel
theorem dX6_cost_68 : decode cX6_cost 68 = .ok (.ireturn, 1) := by decide +kernel
theorem dX6_fill_0 : decode cX6_fill 0 = .ok (.aload_n 0, 1) := by decide +kernel
theorem dX6_fill_1 : decode cX6_fill 1 = .ok (.iconst 0, 1) := by decide +kernel
theorem dX6_fill_2 : decode cX6_fill 2 = .ok (.putfield 90, 3) := by decide +kernel
theorem dX6_fill_5 : decode cX6_fill 5 = .ok (.aload_n 0, 1) := by decide +kernel
theorem dX6_fill_6 : decode cX6_fill 6 = .ok (.iload_n 1, 1) := by decide +kernel
theorem dX6_fill_7 : decode cX6_fill 7 = .ok (.invokevirtual 108, 3) := by decide +kernel
theorem dX6_fill_10 : decode cX6_fill 10 = .ok (.ifCond .eq 19, 3) := by decide +kernel
theorem dX6_fill_13 : decode cX6_fill 13 = .ok (.iload_n 2, 1) := by decide +kernel
theorem dX6_fill_14 : decode cX6_fill 14 = .ok (.i2l, 1) := by decide +kernel
theorem dX6_fill_15 : decode cX6_fill 15 = .ok (.lconst 0, 1) := by decide +kernel
theorem dX6_fill_16 : decode cX6_fill 16 = .ok (.aload_n 0, 1) := by decide +kernel
theorem dX6_fill_17 : decode cX6_fill 17 = .ok (.getfield 16, 3) := by decide +kernel
theorem dX6_fill_20 : decode cX6_fill 20 = .ok (.iload_n 1, 1) := by decide +kernel
theorem dX6_fill_21 : decode cX6_fill 21 = .ok (.iaload, 1) := by decide +kernel
theorem dX6_fill_22 : decode cX6_fill 22 = .ok (.i2l, 1) := by decide +kernel
theorem dX6_fill_23 : decode cX6_fill 23 = .ok (.invokestatic 96, 3) := by decide +kernel
theorem dX6_fill_26 : decode cX6_fill 26 = .ok (.ifCond .ne 6, 3) := by decide +kernel
theorem dX6_fill_29 : decode cX6_fill 29 = .ok (.ldc 106, 2) := by decide +kernel
theorem dX6_fill_31 : decode cX6_fill 31 = .ok (.ireturn, 1) := by decide +kernel
theorem dX6_fill_32 : decode cX6_fill 32 = .ok (.iload_n 2, 1) := by decide +kernel
theorem dX6_fill_33 : decode cX6_fill 33 = .ok (.aload_n 0, 1) := by decide +kernel
theorem dX6_fill_34 : decode cX6_fill 34 = .ok (.getfield 134, 3) := by decide +kernel
theorem dX6_fill_37 : decode cX6_fill 37 = .ok (.if_icmp .le 6, 3) := by decide +kernel
theorem dX6_fill_40 : decode cX6_fill 40 = .ok (.ldc 112, 2) := by decide +kernel
theorem dX6_fill_42 : decode cX6_fill 42 = .ok (.ireturn, 1) := by decide +kernel
theorem dX6_fill_43 : decode cX6_fill 43 = .ok (.aload_n 0, 1) := by decide +kernel
theorem dX6_fill_44 : decode cX6_fill 44 = .ok (.iload_n 1, 1) := by decide +kernel
theorem dX6_fill_45 : decode cX6_fill 45 = .ok (.iload_n 2, 1) := by decide +kernel
theorem dX6_fill_46 : decode cX6_fill 46 = .ok (.invokevirtual 184, 3) := by decide +kernel
theorem dX6_fill_49 : decode cX6_fill 49 = .ok (.istore_n 3, 1) := by decide +kernel
theorem dX6_fill_50 : decode cX6_fill 50 = .ok (.aload_n 0, 1) := by decide +kernel
theorem dX6_fill_51 : decode cX6_fill 51 = .ok (.getfield 44, 3) := by decide +kernel
theorem dX6_fill_54 : decode cX6_fill 54 = .ok (.iload_n 1, 1) := by decide +kernel
theorem dX6_fill_55 : decode cX6_fill 55 = .ok (.iaload, 1) := by decide +kernel
theorem dX6_fill_56 : decode cX6_fill 56 = .ok (.iconst 2, 1) := by decide +kernel
theorem dX6_fill_57 : decode cX6_fill 57 = .ok (.if_icmp .ne 22, 3) := by decide +kernel
theorem dX6_fill_60 : decode cX6_fill 60 = .ok (.aload_n 0, 1) := by decide +kernel
theorem dX6_fill_61 : decode cX6_fill 61 = .ok (.getfield 47, 3) := by decide +kernel
theorem dX6_fill_64 : decode cX6_fill 64 = .ok (.iload_n 1, 1) := by decide +kernel
theorem dX6_fill_65 : decode cX6_fill 65 = .ok (.dup2, 1) := by decide +kernel
theorem dX6_fill_66 : decode cX6_fill 66 = .ok (.iaload, 1) := by decide +kernel
theorem dX6_fill_67 : decode cX6_fill 67 = .ok (.iload_n 2, 1) := by decide +kernel
theorem dX6_fill_68 : decode cX6_fill 68 = .ok (.aload_n 0, 1) := by decide +kernel
theorem dX6_fill_69 : decode cX6_fill 69 = .ok (.getfield 47, 3) := by decide +kernel
theorem dX6_fill_72 : decode cX6_fill 72 = .ok (.iload_n 1, 1) := by decide +kernel
theorem dX6_fill_73 : decode cX6_fill 73 = .ok (.iaload, 1) := by decide +kernel
theorem dX6_fill_74 : decode cX6_fill 74 = .ok (.invokestatic 176, 3) := by decide +kernel
theorem dX6_fill_77 : decode cX6_fill 77 = .ok (.isub, 1) := by decide +kernel
theorem dX6_fill_78 : decode cX6_fill 78 = .ok (.iastore, 1) := by decide +kernel
theorem dX6_fill_79 : decode cX6_fill 79 = .ok (.aload_n 0, 1) := by decide +kernel
theorem dX6_fill_80 : decode cX6_fill 80 = .ok (.dup, 1) := by decide +kernel
theorem dX6_fill_81 : decode cX6_fill 81 = .ok (.getfield 134, 3) := by decide +kernel
theorem dX6_fill_84 : decode cX6_fill 84 = .ok (.iload_n 2, 1) := by decide +kernel
theorem dX6_fill_85 : decode cX6_fill 85 = .ok (.isub, 1) := by decide +kernel
theorem dX6_fill_86 : decode cX6_fill 86 = .ok (.putfield 134, 3) := by decide +kernel
theorem dX6_fill_89 : decode cX6_fill 89 = .ok (.aload_n 0, 1) := by decide +kernel
theorem dX6_fill_90 : decode cX6_fill 90 = .ok (.dup, 1) := by decide +kernel
theorem dX6_fill_91 : decode cX6_fill 91 = .ok (.getfield 187, 3) := by decide +kernel
theorem dX6_fill_94 : decode cX6_fill 94 = .ok (.iload_n 2, 1) := by decide +kernel
theorem dX6_fill_95 : decode cX6_fill 95 = .ok (.i2l, 1) := by decide +kernel
theorem dX6_fill_96 : decode cX6_fill 96 = .ok (.ladd, 1) := by decide +kernel
theorem dX6_fill_97 : decode cX6_fill 97 = .ok (.putfield 187, 3) := by decide +kernel
theorem dX6_fill_100 : decode cX6_fill 100 = .ok (.aload_n 0, 1) := by decide +kernel
theorem dX6_fill_101 : decode cX6_fill 101 = .ok (.dup, 1) := by decide +kernel
theorem dX6_fill_102 : decode cX6_fill 102 = .ok (.getfield 190, 3) := by decide +kernel
theorem dX6_fill_105 : decode cX6_fill 105 = .ok (.iload_n 3, 1) := by decide +kernel
theorem dX6_fill_106 : decode cX6_fill 106 = .ok (.i2l, 1) := by decide +kernel
theorem dX6_fill_107 : decode cX6_fill 107 = .ok (.ladd, 1) := by decide +kernel
theorem dX6_fill_108 : decode cX6_fill 108 = .ok (.putfield 190, 3) := by decide +kernel
theorem dX6_fill_111 : decode cX6_fill 111 = .ok (.aload_n 0, 1) := by decide +kernel
theorem dX6_fill_112 : decode cX6_fill 112 = .ok (.getfield 38, 3) := by decide +kernel
theorem dX6_fill_115 : decode cX6_fill 115 = .ok (.iload_n 1, 1) := by decide +kernel
theorem dX6_fill_116 : decode cX6_fill 116 = .ok (.iaload, 1) := by decide +kernel
theorem dX6_fill_117 : decode cX6_fill 117 = .ok (.istore 4, 2) := by decide +kernel
theorem dX6_fill_119 : decode cX6_fill 119 = .ok (.aload_n 0, 1) := by decide +kernel
theorem dX6_fill_120 : decode cX6_fill 120 = .ok (.getfield 41, 3) := by decide +kernel
theorem dX6_fill_123 : decode cX6_fill 123 = .ok (.iload_n 1, 1) := by decide +kernel
theorem dX6_fill_124 : decode cX6_fill 124 = .ok (.iaload, 1) := by decide +kernel
theorem dX6_fill_125 : decode cX6_fill 125 = .ok (.istore 5, 2) := by decide +kernel
theorem dX6_fill_127 : decode cX6_fill 127 = .ok (.iload_n 2, 1) := by decide +kernel
theorem dX6_fill_128 : decode cX6_fill 128 = .ok (.iload 4, 2) := by decide +kernel
theorem dX6_fill_130 : decode cX6_fill 130 = .ok (.aload_n 0, 1) := by decide +kernel
theorem dX6_fill_131 : decode cX6_fill 131 = .ok (.getfield 19, 3) := by decide +kernel
theorem dX6_fill_134 : decode cX6_fill 134 = .ok (.iconst 4, 1) := by decide +kernel
theorem dX6_fill_135 : decode cX6_fill 135 = .ok (.iload_n 1, 1) := by decide +kernel
theorem dX6_fill_136 : decode cX6_fill 136 = .ok (.imul, 1) := by decide +kernel
theorem dX6_fill_137 : decode cX6_fill 137 = .ok (.iconst 2, 1) := by decide +kernel
theorem dX6_fill_138 : decode cX6_fill 138 = .ok (.iadd, 1) := by decide +kernel
theorem dX6_fill_139 : decode cX6_fill 139 = .ok (.iaload, 1) := by decide +kernel
theorem dX6_fill_140 : decode cX6_fill 140 = .ok (.imul, 1) := by decide +kernel
theorem dX6_fill_141 : decode cX6_fill 141 = .ok (.iload 5, 2) := by decide +kernel
theorem dX6_fill_143 : decode cX6_fill 143 = .ok (.aload_n 0, 1) := by decide +kernel
theorem dX6_fill_144 : decode cX6_fill 144 = .ok (.getfield 19, 3) := by decide +kernel
theorem dX6_fill_147 : decode cX6_fill 147 = .ok (.iconst 4, 1) := by decide +kernel
theorem dX6_fill_148 : decode cX6_fill 148 = .ok (.iload_n 1, 1) := by decide +kernel
theorem dX6_fill_149 : decode cX6_fill 149 = .ok (.imul, 1) := by decide +kernel
theorem dX6_fill_150 : decode cX6_fill 150 = .ok (.iconst 3, 1) := by decide +kernel
theorem dX6_fill_151 : decode cX6_fill 151 = .ok (.iadd, 1) := by decide +kernel
theorem dX6_fill_152 : decode cX6_fill 152 = .ok (.iaload, 1) := by decide +kernel
theorem dX6_fill_153 : decode cX6_fill 153 = .ok (.imul, 1) := by decide +kernel
theorem dX6_fill_154 : decode cX6_fill 154 = .ok (.iadd, 1) := by decide +kernel
theorem dX6_fill_155 : decode cX6_fill 155 = .ok (.if_icmp .le 7, 3) := by decide +kernel
theorem dX6_fill_158 : decode cX6_fill 158 = .ok (.iconst 1, 1) := by decide +kernel
theorem dX6_fill_159 : decode cX6_fill 159 = .ok (.goto 4, 3) := by decide +kernel
theorem dX6_fill_162 : decode cX6_fill 162 = .ok (.iconst 0, 1) := by decide +kernel
theorem dX6_fill_163 : decode cX6_fill 163 = .ok (.istore 6, 2) := by decide +kernel
theorem dX6_fill_165 : decode cX6_fill 165 = .ok (.iload_n 2, 1) := by decide +kernel
theorem dX6_fill_166 : decode cX6_fill 166 = .ok (.iload 4, 2) := by decide +kernel
theorem dX6_fill_168 : decode cX6_fill 168 = .ok (.aload_n 0, 1) := by decide +kernel
theorem dX6_fill_169 : decode cX6_fill 169 = .ok (.getfield 19, 3) := by decide +kernel
theorem dX6_fill_172 : decode cX6_fill 172 = .ok (.iconst 4, 1) := by decide +kernel
theorem dX6_fill_173 : decode cX6_fill 173 = .ok (.iload_n 1, 1) := by decide +kernel
theorem dX6_fill_174 : decode cX6_fill 174 = .ok (.imul, 1) := by decide +kernel
theorem dX6_fill_175 : decode cX6_fill 175 = .ok (.iaload, 1) := by decide +kernel
theorem dX6_fill_176 : decode cX6_fill 176 = .ok (.imul, 1) := by decide +kernel
theorem dX6_fill_177 : decode cX6_fill 177 = .ok (.iload 5, 2) := by decide +kernel
theorem dX6_fill_179 : decode cX6_fill 179 = .ok (.aload_n 0, 1) := by decide +kernel
theorem dX6_fill_180 : decode cX6_fill 180 = .ok (.getfield 19, 3) := by decide +kernel
theorem dX6_fill_183 : decode cX6_fill 183 = .ok (.iconst 4, 1) := by decide +kernel
theorem dX6_fill_184 : decode cX6_fill 184 = .ok (.iload_n 1, 1) := by decide +kernel
theorem dX6_fill_185 : decode cX6_fill 185 = .ok (.imul, 1) := by decide +kernel
theorem dX6_fill_186 : decode cX6_fill 186 = .ok (.iconst 1, 1) := by decide +kernel
theorem dX6_fill_187 : decode cX6_fill 187 = .ok (.iadd, 1) := by decide +kernel
theorem dX6_fill_188 : decode cX6_fill 188 = .ok (.iaload, 1) := by decide +kernel
theorem dX6_fill_189 : decode cX6_fill 189 = .ok (.imul, 1) := by decide +kernel
theorem dX6_fill_190 : decode cX6_fill 190 = .ok (.iadd, 1) := by decide +kernel
theorem dX6_fill_191 : decode cX6_fill 191 = .ok (.if_icmp .ge 17, 3) := by decide +kernel
theorem dX6_fill_194 : decode cX6_fill 194 = .ok (.iload_n 2, 1) := by decide +kernel
theorem dX6_fill_195 : decode cX6_fill 195 = .ok (.aload_n 0, 1) := by decide +kernel
theorem dX6_fill_196 : decode cX6_fill 196 = .ok (.getfield 16, 3) := by decide +kernel
theorem dX6_fill_199 : decode cX6_fill 199 = .ok (.iload_n 1, 1) := by decide +kernel
theorem dX6_fill_200 : decode cX6_fill 200 = .ok (.iaload, 1) := by decide +kernel
theorem dX6_fill_201 : decode cX6_fill 201 = .ok (.if_icmp .ge 7, 3) := by decide +kernel
theorem dX6_fill_204 : decode cX6_fill 204 = .ok (.iconst 1, 1) := by decide +kernel
theorem dX6_fill_205 : decode cX6_fill 205 = .ok (.goto 4, 3) := by decide +kernel
theorem dX6_fill_208 : decode cX6_fill 208 = .ok (.iconst 0, 1) := by decide +kernel
theorem dX6_fill_209 : decode cX6_fill 209 = .ok (.istore 7, 2) := by decide +kernel
theorem dX6_fill_211 : decode cX6_fill 211 = .ok (.aload_n 0, 1) := by decide +kernel
theorem dX6_fill_212 : decode cX6_fill 212 = .ok (.getfield 31, 3) := by decide +kernel
theorem dX6_fill_215 : decode cX6_fill 215 = .ok (.iload_n 1, 1) := by decide +kernel
theorem dX6_fill_216 : decode cX6_fill 216 = .ok (.iload 6, 2) := by decide +kernel
theorem dX6_fill_218 : decode cX6_fill 218 = .ok (.ifCond .eq 7, 3) := by decide +kernel
theorem dX6_fill_221 : decode cX6_fill 221 = .ok (.iconst 1, 1) := by decide +kernel
theorem dX6_fill_222 : decode cX6_fill 222 = .ok (.goto 13, 3) := by decide +kernel
theorem dX6_fill_225 : decode cX6_fill 225 = .ok (.iload 7, 2) := by decide +kernel
theorem dX6_fill_227 : decode cX6_fill 227 = .ok (.ifCond .eq 7, 3) := by decide +kernel
theorem dX6_fill_230 : decode cX6_fill 230 = .ok (.iconst 2, 1) := by decide +kernel
theorem dX6_fill_231 : decode cX6_fill 231 = .ok (.goto 4, 3) := by decide +kernel
theorem dX6_fill_234 : decode cX6_fill 234 = .ok (.iconst 0, 1) := by decide +kernel
theorem dX6_fill_235 : decode cX6_fill 235 = .ok (.iastore, 1) := by decide +kernel
theorem dX6_fill_236 : decode cX6_fill 236 = .ok (.aload_n 0, 1) := by decide +kernel
theorem dX6_fill_237 : decode cX6_fill 237 = .ok (.getfield 34, 3) := by decide +kernel
theorem dX6_fill_240 : decode cX6_fill 240 = .ok (.iload_n 1, 1) := by decide +kernel
theorem dX6_fill_241 : decode cX6_fill 241 = .ok (.aload_n 0, 1) := by decide +kernel
theorem dX6_fill_242 : decode cX6_fill 242 = .ok (.getfield 34, 3) := by decide +kernel
theorem dX6_fill_245 : decode cX6_fill 245 = .ok (.iload_n 1, 1) := by decide +kernel
theorem dX6_fill_246 : decode cX6_fill 246 = .ok (.baload, 1) := by decide +kernel
theorem dX6_fill_247 : decode cX6_fill 247 = .ok (.ifCond .ne 13, 3) := by decide +kernel
theorem dX6_fill_250 : decode cX6_fill 250 = .ok (.iload 6, 2) := by decide +kernel
theorem dX6_fill_252 : decode cX6_fill 252 = .ok (.ifCond .ne 8, 3) := by decide +kernel
theorem dX6_fill_255 : decode cX6_fill 255 = .ok (.iload 7, 2) := by decide +kernel
theorem dX6_fill_257 : decode cX6_fill 257 = .ok (.ifCond .eq 7, 3) := by decide +kernel
theorem dX6_fill_260 : decode cX6_fill 260 = .ok (.iconst 1, 1) := by decide +kernel
theorem dX6_fill_261 : decode cX6_fill 261 = .ok (.goto 4, 3) := by decide +kernel
theorem dX6_fill_264 : decode cX6_fill 264 = .ok (.iconst 0, 1) := by decide +kernel
theorem dX6_fill_265 : decode cX6_fill 265 = .ok (.bastore, 1) := by decide +kernel
theorem dX6_fill_266 : decode cX6_fill 266 = .ok (.aload_n 0, 1) := by decide +kernel
theorem dX6_fill_267 : decode cX6_fill 267 = .ok (.getfield 31, 3) := by decide +kernel
theorem dX6_fill_270 : decode cX6_fill 270 = .ok (.iload_n 1, 1) := by decide +kernel
theorem dX6_fill_271 : decode cX6_fill 271 = .ok (.iaload, 1) := by decide +kernel
theorem dX6_fill_272 : decode cX6_fill 272 = .ok (.ifCond .ne 24, 3) := by decide +kernel
theorem dX6_fill_275 : decode cX6_fill 275 = .ok (.iload_n 2, 1) := by decide +kernel
theorem dX6_fill_276 : decode cX6_fill 276 = .ok (.aload_n 0, 1) := by decide +kernel
theorem dX6_fill_277 : decode cX6_fill 277 = .ok (.getfield 16, 3) := by decide +kernel
theorem dX6_fill_280 : decode cX6_fill 280 = .ok (.iload_n 1, 1) := by decide +kernel
theorem dX6_fill_281 : decode cX6_fill 281 = .ok (.iaload, 1) := by decide +kernel
theorem dX6_fill_282 : decode cX6_fill 282 = .ok (.if_icmp .ge 14, 3) := by decide +kernel
theorem dX6_fill_285 : decode cX6_fill 285 = .ok (.iload 4, 2) := by decide +kernel
theorem dX6_fill_287 : decode cX6_fill 287 = .ok (.ifCond .le 9, 3) := by decide +kernel
theorem dX6_fill_290 : decode cX6_fill 290 = .ok (.aload_n 0, 1) := by decide +kernel
theorem dX6_fill_291 : decode cX6_fill 291 = .ok (.iload_n 1, 1) := by decide +kernel
theorem dX6_fill_292 : decode cX6_fill 292 = .ok (.iload_n 2, 1) := by decide +kernel
theorem dX6_fill_293 : decode cX6_fill 293 = .ok (.invokevirtual 193, 3) := by decide +kernel
theorem dX6_fill_296 : decode cX6_fill 296 = .ok (.aload_n 0, 1) := by decide +kernel
theorem dX6_fill_297 : decode cX6_fill 297 = .ok (.getfield 28, 3) := by decide +kernel
theorem dX6_fill_300 : decode cX6_fill 300 = .ok (.iload_n 1, 1) := by decide +kernel
theorem dX6_fill_301 : decode cX6_fill 301 = .ok (.dup2, 1) := by decide +kernel
theorem dX6_fill_302 : decode cX6_fill 302 = .ok (.iaload, 1) := by decide +kernel
theorem dX6_fill_303 : decode cX6_fill 303 = .ok (.iconst 1, 1) := by decide +kernel
theorem dX6_fill_304 : decode cX6_fill 304 = .ok (.iadd, 1) := by decide +kernel
theorem dX6_fill_305 : decode cX6_fill 305 = .ok (.iastore, 1) := by decide +kernel
theorem dX6_fill_306 : decode cX6_fill 306 = .ok (.aload_n 0, 1) := by decide +kernel
theorem dX6_fill_307 : decode cX6_fill 307 = .ok (.getfield 22, 3) := by decide +kernel
theorem dX6_fill_310 : decode cX6_fill 310 = .ok (.iload_n 1, 1) := by decide +kernel
theorem dX6_fill_311 : decode cX6_fill 311 = .ok (.aload_n 0, 1) := by decide +kernel
theorem dX6_fill_312 : decode cX6_fill 312 = .ok (.getfield 16, 3) := by decide +kernel
theorem dX6_fill_315 : decode cX6_fill 315 = .ok (.iload_n 1, 1) := by decide +kernel
theorem dX6_fill_316 : decode cX6_fill 316 = .ok (.iaload, 1) := by decide +kernel
theorem dX6_fill_317 : decode cX6_fill 317 = .ok (.iastore, 1) := by decide +kernel
theorem dX6_fill_318 : decode cX6_fill 318 = .ok (.aload_n 0, 1) := by decide +kernel
theorem dX6_fill_319 : decode cX6_fill 319 = .ok (.getfield 25, 3) := by decide +kernel
theorem dX6_fill_322 : decode cX6_fill 322 = .ok (.iload_n 1, 1) := by decide +kernel
theorem dX6_fill_323 : decode cX6_fill 323 = .ok (.aload_n 0, 1) := by decide +kernel
theorem dX6_fill_324 : decode cX6_fill 324 = .ok (.getfield 16, 3) := by decide +kernel
theorem dX6_fill_327 : decode cX6_fill 327 = .ok (.iload_n 1, 1) := by decide +kernel
theorem dX6_fill_328 : decode cX6_fill 328 = .ok (.iaload, 1) := by decide +kernel
theorem dX6_fill_329 : decode cX6_fill 329 = .ok (.iastore, 1) := by decide +kernel
theorem dX6_fill_330 : decode cX6_fill 330 = .ok (.aload_n 0, 1) := by decide +kernel
theorem dX6_fill_331 : decode cX6_fill 331 = .ok (.getfield 38, 3) := by decide +kernel
theorem dX6_fill_334 : decode cX6_fill 334 = .ok (.iload_n 1, 1) := by decide +kernel
theorem dX6_fill_335 : decode cX6_fill 335 = .ok (.iconst 0, 1) := by decide +kernel
theorem dX6_fill_336 : decode cX6_fill 336 = .ok (.iastore, 1) := by decide +kernel
theorem dX6_fill_337 : decode cX6_fill 337 = .ok (.aload_n 0, 1) := by decide +kernel
theorem dX6_fill_338 : decode cX6_fill 338 = .ok (.getfield 41, 3) := by decide +kernel
theorem dX6_fill_341 : decode cX6_fill 341 = .ok (.iload_n 1, 1) := by decide +kernel
theorem dX6_fill_342 : decode cX6_fill 342 = .ok (.iconst 0, 1) := by decide +kernel
theorem dX6_fill_343 : decode cX6_fill 343 = .ok (.iastore, 1) := by decide +kernel
theorem dX6_fill_344 : decode cX6_fill 344 = .ok (.iload_n 3, 1) := by decide +kernel
theorem dX6_fill_345 : decode cX6_fill 345 = .ok (.ireturn, 1) := by decide +kernel
theorem dX6_price_0 : decode cX6_price 0 = .ok (.aload_n 0, 1) := by decide +kernel
theorem dX6_price_1 : decode cX6_price 1 = .ok (.iconst 0, 1) := by decide +kernel
theorem dX6_price_2 : decode cX6_price 2 = .ok (.putfield 90, 3) := by decide +kernel
theorem dX6_price_5 : decode cX6_price 5 = .ok (.iload_n 1, 1) := by decide +kernel
theorem dX6_price_6 : decode cX6_price 6 = .ok (.i2l, 1) := by decide +kernel
theorem dX6_price_7 : decode cX6_price 7 = .ok (.lconst 0, 1) := by decide +kernel
theorem dX6_price_8 : decode cX6_price 8 = .ok (.ldc2_w 197, 3) := by decide +kernel
theorem dX6_price_11 : decode cX6_price 11 = .ok (.invokestatic 96, 3) := by decide +kernel
theorem dX6_price_14 : decode cX6_price 14 = .ok (.ifCond .ne 6, 3) := by decide +kernel
theorem dX6_price_17 : decode cX6_price 17 = .ok (.ldc 106, 2) := by decide +kernel
theorem dX6_price_19 : decode cX6_price 19 = .ok (.ireturn, 1) := by decide +kernel
theorem dX6_price_20 : decode cX6_price 20 = .ok (.aload_n 0, 1) := by decide +kernel
theorem dX6_price_21 : decode cX6_price 21 = .ok (.getfield 63, 3) := by decide +kernel
theorem dX6_price_24 : decode cX6_price 24 = .ok (.istore_n 2, 1) := by decide +kernel
theorem dX6_price_25 : decode cX6_price 25 = .ok (.aload_n 0, 1) := by decide +kernel
theorem dX6_price_26 : decode cX6_price 26 = .ok (.iload_n 1, 1) := by decide +kernel
theorem dX6_price_27 : decode cX6_price 27 = .ok (.putfield 63, 3) := by decide +kernel
theorem dX6_price_30 : decode cX6_price 30 = .ok (.iload_n 2, 1) := by decide +kernel
theorem dX6_price_31 : decode cX6_price 31 = .ok (.ireturn, 1) := by decide +kernel
theorem dX6_quote_0 : decode cX6_quote 0 = .ok (.aload_n 0, 1) := by decide +kernel
theorem dX6_quote_1 : decode cX6_quote 1 = .ok (.iconst 0, 1) := by decide +kernel
theorem dX6_quote_2 : decode cX6_quote 2 = .ok (.putfield 90, 3) := by decide +kernel
theorem dX6_quote_5 : decode cX6_quote 5 = .ok (.aload_n 0, 1) := by decide +kernel
theorem dX6_quote_6 : decode cX6_quote 6 = .ok (.iload_n 1, 1) := by decide +kernel
theorem dX6_quote_7 : decode cX6_quote 7 = .ok (.invokevirtual 108, 3) := by decide +kernel
theorem dX6_quote_10 : decode cX6_quote 10 = .ok (.ifCond .eq 24, 3) := by decide +kernel
theorem dX6_quote_13 : decode cX6_quote 13 = .ok (.iload_n 2, 1) := by decide +kernel
theorem dX6_quote_14 : decode cX6_quote 14 = .ok (.i2l, 1) := by decide +kernel
theorem dX6_quote_15 : decode cX6_quote 15 = .ok (.lconst 0, 1) := by decide +kernel
theorem dX6_quote_16 : decode cX6_quote 16 = .ok (.ldc2_w 104, 3) := by decide +kernel
theorem dX6_quote_19 : decode cX6_quote 19 = .ok (.invokestatic 96, 3) := by decide +kernel
theorem dX6_quote_22 : decode cX6_quote 22 = .ok (.ifCond .eq 12, 3) := by decide +kernel
theorem dX6_quote_25 : decode cX6_quote 25 = .ok (.aload_n 0, 1) := by decide +kernel
theorem dX6_quote_26 : decode cX6_quote 26 = .ok (.iload_n 1, 1) := by decide +kernel
theorem dX6_quote_27 : decode cX6_quote 27 = .ok (.iload_n 2, 1) := by decide +kernel
theorem dX6_quote_28 : decode cX6_quote 28 = .ok (.invokevirtual 184, 3) := by decide +kernel
theorem dX6_quote_31 : decode cX6_quote 31 = .ok (.goto 5, 3) := by decide +kernel
theorem dX6_quote_34 : decode cX6_quote 34 = .ok (.ldc 106, 2) := by decide +kernel
theorem dX6_quote_36 : decode cX6_quote 36 = .ok (.ireturn, 1) := by decide +kernel
theorem dX6_feed_0 : decode cX6_feed 0 = .ok (.aload_n 0, 1) := by decide +kernel
theorem dX6_feed_1 : decode cX6_feed 1 = .ok (.iconst 0, 1) := by decide +kernel
theorem dX6_feed_2 : decode cX6_feed 2 = .ok (.putfield 90, 3) := by decide +kernel
theorem dX6_feed_5 : decode cX6_feed 5 = .ok (.iload_n 3, 1) := by decide +kernel
theorem dX6_feed_6 : decode cX6_feed 6 = .ok (.i2l, 1) := by decide +kernel
theorem dX6_feed_7 : decode cX6_feed 7 = .ok (.lconst 1, 1) := by decide +kernel
theorem dX6_feed_8 : decode cX6_feed 8 = .ok (.ldc2_w 199, 3) := by decide +kernel
theorem dX6_feed_11 : decode cX6_feed 11 = .ok (.invokestatic 96, 3) := by decide +kernel
theorem dX6_feed_14 : decode cX6_feed 14 = .ok (.ifCond .ne 6, 3) := by decide +kernel
theorem dX6_feed_17 : decode cX6_feed 17 = .ok (.ldc 106, 2) := by decide +kernel
theorem dX6_feed_19 : decode cX6_feed 19 = .ok (.ireturn, 1) := by decide +kernel
theorem dX6_feed_20 : decode cX6_feed 20 = .ok (.aload_n 0, 1) := by decide +kernel
theorem dX6_feed_21 : decode cX6_feed 21 = .ok (.getfield 201, 3) := by decide +kernel
theorem dX6_feed_24 : decode cX6_feed 24 = .ok (.iload_n 3, 1) := by decide +kernel
theorem dX6_feed_25 : decode cX6_feed 25 = .ok (.iadd, 1) := by decide +kernel
theorem dX6_feed_26 : decode cX6_feed 26 = .ok (.sipush 300, 3) := by decide +kernel
theorem dX6_feed_29 : decode cX6_feed 29 = .ok (.if_icmp .le 6, 3) := by decide +kernel
theorem dX6_feed_32 : decode cX6_feed 32 = .ok (.ldc 107, 2) := by decide +kernel
theorem dX6_feed_34 : decode cX6_feed 34 = .ok (.ireturn, 1) := by decide +kernel
theorem dX6_feed_35 : decode cX6_feed 35 = .ok (.iload_n 3, 1) := by decide +kernel
theorem dX6_feed_36 : decode cX6_feed 36 = .ok (.iconst 1, 1) := by decide +kernel
theorem dX6_feed_37 : decode cX6_feed 37 = .ok (.isub, 1) := by decide +kernel
theorem dX6_feed_38 : decode cX6_feed 38 = .ok (.istore 4, 2) := by decide +kernel
theorem dX6_feed_40 : decode cX6_feed 40 = .ok (.iload 4, 2) := by decide +kernel
theorem dX6_feed_42 : decode cX6_feed 42 = .ok (.ifCond .lt 40, 3) := by decide +kernel
theorem dX6_feed_45 : decode cX6_feed 45 = .ok (.aload_n 0, 1) := by decide +kernel
theorem dX6_feed_46 : decode cX6_feed 46 = .ok (.getfield 72, 3) := by decide +kernel
theorem dX6_feed_49 : decode cX6_feed 49 = .ok (.aload_n 0, 1) := by decide +kernel
theorem dX6_feed_50 : decode cX6_feed 50 = .ok (.getfield 201, 3) := by decide +kernel
theorem dX6_feed_53 : decode cX6_feed 53 = .ok (.lload_n 1, 1) := by decide +kernel
theorem dX6_feed_54 : decode cX6_feed 54 = .ok (.bipush 8, 2) := by decide +kernel
theorem dX6_feed_56 : decode cX6_feed 56 = .ok (.iload 4, 2) := by decide +kernel
theorem dX6_feed_58 : decode cX6_feed 58 = .ok (.imul, 1) := by decide +kernel
theorem dX6_feed_59 : decode cX6_feed 59 = .ok (.lshr, 1) := by decide +kernel
theorem dX6_feed_60 : decode cX6_feed 60 = .ok (.ldc2_w 204, 3) := by decide +kernel
theorem dX6_feed_63 : decode cX6_feed 63 = .ok (.land, 1) := by decide +kernel
theorem dX6_feed_64 : decode cX6_feed 64 = .ok (.l2i, 1) := by decide +kernel
theorem dX6_feed_65 : decode cX6_feed 65 = .ok (.iastore, 1) := by decide +kernel
theorem dX6_feed_66 : decode cX6_feed 66 = .ok (.aload_n 0, 1) := by decide +kernel
theorem dX6_feed_67 : decode cX6_feed 67 = .ok (.dup, 1) := by decide +kernel
theorem dX6_feed_68 : decode cX6_feed 68 = .ok (.getfield 201, 3) := by decide +kernel
theorem dX6_feed_71 : decode cX6_feed 71 = .ok (.iconst 1, 1) := by decide +kernel
theorem dX6_feed_72 : decode cX6_feed 72 = .ok (.iadd, 1) := by decide +kernel
theorem dX6_feed_73 : decode cX6_feed 73 = .ok (.putfield 201, 3) := by decide +kernel
theorem dX6_feed_76 : decode cX6_feed 76 = .ok (.iinc 4 (-1), 3) := by decide +kernel
theorem dX6_feed_79 : decode cX6_feed 79 = .ok (.goto (-39), 3) := by decide +kernel
theorem dX6_feed_82 : decode cX6_feed 82 = .ok (.aload_n 0, 1) := by decide +kernel
theorem dX6_feed_83 : decode cX6_feed 83 = .ok (.getfield 201, 3) := by decide +kernel
theorem dX6_feed_86 : decode cX6_feed 86 = .ok (.ireturn, 1) := by decide +kernel
theorem dX6_byteAt_0 : decode cX6_byteAt 0 = .ok (.iload_n 1, 1) := by decide +kernel
theorem dX6_byteAt_1 : decode cX6_byteAt 1 = .ok (.aload_n 0, 1) := by decide +kernel
theorem dX6_byteAt_2 : decode cX6_byteAt 2 = .ok (.getfield 206, 3) := by decide +kernel
theorem dX6_byteAt_5 : decode cX6_byteAt 5 = .ok (.if_icmp .ge 12, 3) := by decide +kernel
theorem dX6_byteAt_8 : decode cX6_byteAt 8 = .ok (.aload_n 0, 1) := by decide +kernel
theorem dX6_byteAt_9 : decode cX6_byteAt 9 = .ok (.getfield 72, 3) := by decide +kernel
theorem dX6_byteAt_12 : decode cX6_byteAt 12 = .ok (.iload_n 1, 1) := by decide +kernel
theorem dX6_byteAt_13 : decode cX6_byteAt 13 = .ok (.iaload, 1) := by decide +kernel
theorem dX6_byteAt_14 : decode cX6_byteAt 14 = .ok (.goto 5, 3) := by decide +kernel
theorem dX6_byteAt_17 : decode cX6_byteAt 17 = .ok (.ldc 145, 2) := by decide +kernel
theorem dX6_byteAt_19 : decode cX6_byteAt 19 = .ok (.ireturn, 1) := by decide +kernel
theorem dX6_isLetter_0 : decode cX6_isLetter 0 = .ok (.iload_n 0, 1) := by decide +kernel
theorem dX6_isLetter_1 : decode cX6_isLetter 1 = .ok (.bipush 97, 2) := by decide +kernel
theorem dX6_isLetter_3 : decode cX6_isLetter 3 = .ok (.if_icmp .lt 13, 3) := by decide +kernel
theorem dX6_isLetter_6 : decode cX6_isLetter 6 = .ok (.iload_n 0, 1) := by decide +kernel
theorem dX6_isLetter_7 : decode cX6_isLetter 7 = .ok (.bipush 122, 2) := by decide +kernel
theorem dX6_isLetter_9 : decode cX6_isLetter 9 = .ok (.if_icmp .gt 7, 3) := by decide +kernel
theorem dX6_isLetter_12 : decode cX6_isLetter 12 = .ok (.iconst 1, 1) := by decide +kernel
theorem dX6_isLetter_13 : decode cX6_isLetter 13 = .ok (.goto 4, 3) := by decide +kernel
theorem dX6_isLetter_16 : decode cX6_isLetter 16 = .ok (.iconst 0, 1) := by decide +kernel
theorem dX6_isLetter_17 : decode cX6_isLetter 17 = .ok (.ireturn, 1) := by decide +kernel
theorem dX6_isFigure_0 : decode cX6_isFigure 0 = .ok (.iload_n 0, 1) := by decide +kernel
theorem dX6_isFigure_1 : decode cX6_isFigure 1 = .ok (.bipush 48, 2) := by decide +kernel
theorem dX6_isFigure_3 : decode cX6_isFigure 3 = .ok (.if_icmp .lt 13, 3) := by decide +kernel
theorem dX6_isFigure_6 : decode cX6_isFigure 6 = .ok (.iload_n 0, 1) := by decide +kernel
theorem dX6_isFigure_7 : decode cX6_isFigure 7 = .ok (.bipush 57, 2) := by decide +kernel
theorem dX6_isFigure_9 : decode cX6_isFigure 9 = .ok (.if_icmp .gt 7, 3) := by decide +kernel
theorem dX6_isFigure_12 : decode cX6_isFigure 12 = .ok (.iconst 1, 1) := by decide +kernel
theorem dX6_isFigure_13 : decode cX6_isFigure 13 = .ok (.goto 4, 3) := by decide +kernel
theorem dX6_isFigure_16 : decode cX6_isFigure 16 = .ok (.iconst 0, 1) := by decide +kernel
theorem dX6_isFigure_17 : decode cX6_isFigure 17 = .ok (.ireturn, 1) := by decide +kernel
theorem dX6_step_0 : decode cX6_step 0 = .ok (.aload_n 0, 1) := by decide +kernel
theorem dX6_step_1 : decode cX6_step 1 = .ok (.aload_n 0, 1) := by decide +kernel
theorem dX6_step_2 : decode cX6_step 2 = .ok (.getfield 209, 3) := by decide +kernel
theorem dX6_step_5 : decode cX6_step 5 = .ok (.invokevirtual 212, 3) := by decide +kernel
theorem dX6_step_8 : decode cX6_step 8 = .ok (.bipush 32, 2) := by decide +kernel
theorem dX6_step_10 : decode cX6_step 10 = .ok (.if_icmp .eq 16, 3) := by decide +kernel
theorem dX6_step_13 : decode cX6_step 13 = .ok (.aload_n 0, 1) := by decide +kernel
theorem dX6_step_14 : decode cX6_step 14 = .ok (.aload_n 0, 1) := by decide +kernel
theorem dX6_step_15 : decode cX6_step 15 = .ok (.getfield 209, 3) := by decide +kernel
theorem dX6_step_18 : decode cX6_step 18 = .ok (.invokevirtual 212, 3) := by decide +kernel
theorem dX6_step_21 : decode cX6_step 21 = .ok (.bipush 10, 2) := by decide +kernel
theorem dX6_step_23 : decode cX6_step 23 = .ok (.if_icmp .ne 16, 3) := by decide +kernel
theorem dX6_step_26 : decode cX6_step 26 = .ok (.aload_n 0, 1) := by decide +kernel
theorem dX6_step_27 : decode cX6_step 27 = .ok (.dup, 1) := by decide +kernel
theorem dX6_step_28 : decode cX6_step 28 = .ok (.getfield 209, 3) := by decide +kernel
theorem dX6_step_31 : decode cX6_step 31 = .ok (.iconst 1, 1) := by decide +kernel
theorem dX6_step_32 : decode cX6_step 32 = .ok (.iadd, 1) := by decide +kernel
theorem dX6_step_33 : decode cX6_step 33 = .ok (.putfield 209, 3) := by decide +kernel
theorem dX6_step_36 : decode cX6_step 36 = .ok (.goto (-36), 3) := by decide +kernel
theorem dX6_step_39 : decode cX6_step 39 = .ok (.aload_n 0, 1) := by decide +kernel
theorem dX6_step_40 : decode cX6_step 40 = .ok (.aload_n 0, 1) := by decide +kernel
theorem dX6_step_41 : decode cX6_step 41 = .ok (.getfield 209, 3) := by decide +kernel
theorem dX6_step_44 : decode cX6_step 44 = .ok (.putfield 215, 3) := by decide +kernel
theorem dX6_step_47 : decode cX6_step 47 = .ok (.aload_n 0, 1) := by decide +kernel
theorem dX6_step_48 : decode cX6_step 48 = .ok (.aload_n 0, 1) := by decide +kernel
theorem dX6_step_49 : decode cX6_step 49 = .ok (.getfield 209, 3) := by decide +kernel
theorem dX6_step_52 : decode cX6_step 52 = .ok (.invokevirtual 212, 3) := by decide +kernel
theorem dX6_step_55 : decode cX6_step 55 = .ok (.istore_n 1, 1) := by decide +kernel
theorem dX6_step_56 : decode cX6_step 56 = .ok (.iload_n 1, 1) := by decide +kernel
theorem dX6_step_57 : decode cX6_step 57 = .ok (.ldc 145, 2) := by decide +kernel
theorem dX6_step_59 : decode cX6_step 59 = .ok (.if_icmp .ne 11, 3) := by decide +kernel
theorem dX6_step_62 : decode cX6_step 62 = .ok (.aload_n 0, 1) := by decide +kernel
theorem dX6_step_63 : decode cX6_step 63 = .ok (.iconst 1, 1) := by decide +kernel
theorem dX6_step_64 : decode cX6_step 64 = .ok (.putfield 218, 3) := by decide +kernel
theorem dX6_step_67 : decode cX6_step 67 = .ok (.goto 153, 3) := by decide +kernel
theorem dX6_step_70 : decode cX6_step 70 = .ok (.iload_n 1, 1) := by decide +kernel
theorem dX6_step_71 : decode cX6_step 71 = .ok (.invokestatic 221, 3) := by decide +kernel
theorem dX6_step_74 : decode cX6_step 74 = .ok (.ifCond .eq 56, 3) := by decide +kernel
theorem dX6_step_77 : decode cX6_step 77 = .ok (.aload_n 0, 1) := by decide +kernel
theorem dX6_step_78 : decode cX6_step 78 = .ok (.aload_n 0, 1) := by decide +kernel
theorem dX6_step_79 : decode cX6_step 79 = .ok (.getfield 209, 3) := by decide +kernel
theorem dX6_step_82 : decode cX6_step 82 = .ok (.invokevirtual 212, 3) := by decide +kernel
theorem dX6_step_85 : decode cX6_step 85 = .ok (.invokestatic 221, 3) := by decide +kernel
theorem dX6_step_88 : decode cX6_step 88 = .ok (.ifCond .eq 16, 3) := by decide +kernel
theorem dX6_step_91 : decode cX6_step 91 = .ok (.aload_n 0, 1) := by decide +kernel
theorem dX6_step_92 : decode cX6_step 92 = .ok (.dup, 1) := by decide +kernel
theorem dX6_step_93 : decode cX6_step 93 = .ok (.getfield 209, 3) := by decide +kernel
theorem dX6_step_96 : decode cX6_step 96 = .ok (.iconst 1, 1) := by decide +kernel
theorem dX6_step_97 : decode cX6_step 97 = .ok (.iadd, 1) := by decide +kernel
theorem dX6_step_98 : decode cX6_step 98 = .ok (.putfield 209, 3) := by decide +kernel
theorem dX6_step_101 : decode cX6_step 101 = .ok (.goto (-24), 3) := by decide +kernel
theorem dX6_step_104 : decode cX6_step 104 = .ok (.aload_n 0, 1) := by decide +kernel
theorem dX6_step_105 : decode cX6_step 105 = .ok (.aload_n 0, 1) := by decide +kernel
theorem dX6_step_106 : decode cX6_step 106 = .ok (.getfield 209, 3) := by decide +kernel
theorem dX6_step_109 : decode cX6_step 109 = .ok (.aload_n 0, 1) := by decide +kernel
theorem dX6_step_110 : decode cX6_step 110 = .ok (.getfield 215, 3) := by decide +kernel
theorem dX6_step_113 : decode cX6_step 113 = .ok (.isub, 1) := by decide +kernel
theorem dX6_step_114 : decode cX6_step 114 = .ok (.bipush 6, 2) := by decide +kernel
theorem dX6_step_116 : decode cX6_step 116 = .ok (.if_icmp .le 7, 3) := by decide +kernel
theorem dX6_step_119 : decode cX6_step 119 = .ok (.iconst 0, 1) := by decide +kernel
theorem dX6_step_120 : decode cX6_step 120 = .ok (.goto 4, 3) := by decide +kernel
theorem dX6_step_123 : decode cX6_step 123 = .ok (.iconst 2, 1) := by decide +kernel
theorem dX6_step_124 : decode cX6_step 124 = .ok (.putfield 218, 3) := by decide +kernel
theorem dX6_step_127 : decode cX6_step 127 = .ok (.goto 93, 3) := by decide +kernel
theorem dX6_step_130 : decode cX6_step 130 = .ok (.iload_n 1, 1) := by decide +kernel
theorem dX6_step_131 : decode cX6_step 131 = .ok (.invokestatic 224, 3) := by decide +kernel
theorem dX6_step_134 : decode cX6_step 134 = .ok (.ifCond .eq 55, 3) := by decide +kernel
theorem dX6_step_137 : decode cX6_step 137 = .ok (.aload_n 0, 1) := by decide +kernel
theorem dX6_step_138 : decode cX6_step 138 = .ok (.aload_n 0, 1) := by decide +kernel
theorem dX6_step_139 : decode cX6_step 139 = .ok (.getfield 209, 3) := by decide +kernel
theorem dX6_step_142 : decode cX6_step 142 = .ok (.invokevirtual 212, 3) := by decide +kernel
theorem dX6_step_145 : decode cX6_step 145 = .ok (.invokestatic 224, 3) := by decide +kernel
theorem dX6_step_148 : decode cX6_step 148 = .ok (.ifCond .eq 16, 3) := by decide +kernel
theorem dX6_step_151 : decode cX6_step 151 = .ok (.aload_n 0, 1) := by decide +kernel
theorem dX6_step_152 : decode cX6_step 152 = .ok (.dup, 1) := by decide +kernel
theorem dX6_step_153 : decode cX6_step 153 = .ok (.getfield 209, 3) := by decide +kernel
theorem dX6_step_156 : decode cX6_step 156 = .ok (.iconst 1, 1) := by decide +kernel
theorem dX6_step_157 : decode cX6_step 157 = .ok (.iadd, 1) := by decide +kernel
theorem dX6_step_158 : decode cX6_step 158 = .ok (.putfield 209, 3) := by decide +kernel
theorem dX6_step_161 : decode cX6_step 161 = .ok (.goto (-24), 3) := by decide +kernel
theorem dX6_step_164 : decode cX6_step 164 = .ok (.aload_n 0, 1) := by decide +kernel
theorem dX6_step_165 : decode cX6_step 165 = .ok (.aload_n 0, 1) := by decide +kernel
theorem dX6_step_166 : decode cX6_step 166 = .ok (.getfield 209, 3) := by decide +kernel
theorem dX6_step_169 : decode cX6_step 169 = .ok (.aload_n 0, 1) := by decide +kernel
theorem dX6_step_170 : decode cX6_step 170 = .ok (.getfield 215, 3) := by decide +kernel
theorem dX6_step_173 : decode cX6_step 173 = .ok (.isub, 1) := by decide +kernel
theorem dX6_step_174 : decode cX6_step 174 = .ok (.iconst 5, 1) := by decide +kernel
theorem dX6_step_175 : decode cX6_step 175 = .ok (.if_icmp .le 7, 3) := by decide +kernel
theorem dX6_step_178 : decode cX6_step 178 = .ok (.iconst 0, 1) := by decide +kernel
theorem dX6_step_179 : decode cX6_step 179 = .ok (.goto 4, 3) := by decide +kernel
theorem dX6_step_182 : decode cX6_step 182 = .ok (.iconst 3, 1) := by decide +kernel
theorem dX6_step_183 : decode cX6_step 183 = .ok (.putfield 218, 3) := by decide +kernel
theorem dX6_step_186 : decode cX6_step 186 = .ok (.goto 34, 3) := by decide +kernel
theorem dX6_step_189 : decode cX6_step 189 = .ok (.aload_n 0, 1) := by decide +kernel
theorem dX6_step_190 : decode cX6_step 190 = .ok (.dup, 1) := by decide +kernel
theorem dX6_step_191 : decode cX6_step 191 = .ok (.getfield 209, 3) := by decide +kernel
theorem dX6_step_194 : decode cX6_step 194 = .ok (.iconst 1, 1) := by decide +kernel
theorem dX6_step_195 : decode cX6_step 195 = .ok (.iadd, 1) := by decide +kernel
theorem dX6_step_196 : decode cX6_step 196 = .ok (.putfield 209, 3) := by decide +kernel
theorem dX6_step_199 : decode cX6_step 199 = .ok (.aload_n 0, 1) := by decide +kernel
theorem dX6_step_200 : decode cX6_step 200 = .ok (.iload_n 1, 1) := by decide +kernel
theorem dX6_step_201 : decode cX6_step 201 = .ok (.bipush 59, 2) := by decide +kernel
theorem dX6_step_203 : decode cX6_step 203 = .ok (.if_icmp .eq 9, 3) := by decide +kernel
theorem dX6_step_206 : decode cX6_step 206 = .ok (.iload_n 1, 1) := by decide +kernel
theorem dX6_step_207 : decode cX6_step 207 = .ok (.bipush 64, 2) := by decide +kernel
theorem dX6_step_209 : decode cX6_step 209 = .ok (.if_icmp .ne 7, 3) := by decide +kernel
theorem dX6_step_212 : decode cX6_step 212 = .ok (.iconst 4, 1) := by decide +kernel
theorem dX6_step_213 : decode cX6_step 213 = .ok (.goto 4, 3) := by decide +kernel
theorem dX6_step_216 : decode cX6_step 216 = .ok (.iconst 0, 1) := by decide +kernel
theorem dX6_step_217 : decode cX6_step 217 = .ok (.putfield 218, 3) := by decide +kernel
theorem dX6_step_220 : decode cX6_step 220 = .ok (.aload_n 0, 1) := by decide +kernel
theorem dX6_step_221 : decode cX6_step 221 = .ok (.aload_n 0, 1) := by decide +kernel
theorem dX6_step_222 : decode cX6_step 222 = .ok (.getfield 209, 3) := by decide +kernel
theorem dX6_step_225 : decode cX6_step 225 = .ok (.putfield 227, 3) := by decide +kernel
theorem dX6_step_228 : decode cX6_step 228 = .ok (.return_, 1) := by decide +kernel
theorem dX6_bad_0 : decode cX6_bad 0 = .ok (.aload_n 0, 1) := by decide +kernel
theorem dX6_bad_1 : decode cX6_bad 1 = .ok (.getfield 230, 3) := by decide +kernel
theorem dX6_bad_4 : decode cX6_bad 4 = .ok (.ifCond .ne 16, 3) := by decide +kernel
theorem dX6_bad_7 : decode cX6_bad 7 = .ok (.aload_n 0, 1) := by decide +kernel
theorem dX6_bad_8 : decode cX6_bad 8 = .ok (.iload_n 1, 1) := by decide +kernel
theorem dX6_bad_9 : decode cX6_bad 9 = .ok (.putfield 230, 3) := by decide +kernel
theorem dX6_bad_12 : decode cX6_bad 12 = .ok (.aload_n 0, 1) := by decide +kernel
theorem dX6_bad_13 : decode cX6_bad 13 = .ok (.aload_n 0, 1) := by decide +kernel
theorem dX6_bad_14 : decode cX6_bad 14 = .ok (.getfield 215, 3) := by decide +kernel
theorem dX6_bad_17 : decode cX6_bad 17 = .ok (.putfield 233, 3) := by decide +kernel
theorem dX6_bad_20 : decode cX6_bad 20 = .ok (.return_, 1) := by decide +kernel
theorem dX6_take_0 : decode cX6_take 0 = .ok (.iload_n 1, 1) := by decide +kernel
theorem dX6_take_1 : decode cX6_take 1 = .ok (.ifCond .ne 8, 3) := by decide +kernel
theorem dX6_take_4 : decode cX6_take 4 = .ok (.aload_n 0, 1) := by decide +kernel
theorem dX6_take_5 : decode cX6_take 5 = .ok (.iconst 1, 1) := by decide +kernel
theorem dX6_take_6 : decode cX6_take 6 = .ok (.invokevirtual 236, 3) := by decide +kernel
theorem dX6_take_9 : decode cX6_take 9 = .ok (.aload_n 0, 1) := by decide +kernel
theorem dX6_take_10 : decode cX6_take 10 = .ok (.getfield 230, 3) := by decide +kernel
theorem dX6_take_13 : decode cX6_take 13 = .ok (.ifCond .ne 7, 3) := by decide +kernel
theorem dX6_take_16 : decode cX6_take 16 = .ok (.aload_n 0, 1) := by decide +kernel
theorem dX6_take_17 : decode cX6_take 17 = .ok (.invokevirtual 240, 3) := by decide +kernel
theorem dX6_take_20 : decode cX6_take 20 = .ok (.return_, 1) := by decide +kernel
theorem dX6_is_0 : decode cX6_is 0 = .ok (.aload_n 0, 1) := by decide +kernel
theorem dX6_is_1 : decode cX6_is 1 = .ok (.getfield 218, 3) := by decide +kernel
theorem dX6_is_4 : decode cX6_is 4 = .ok (.iconst 4, 1) := by decide +kernel
theorem dX6_is_5 : decode cX6_is 5 = .ok (.if_icmp .ne 20, 3) := by decide +kernel
theorem dX6_is_8 : decode cX6_is 8 = .ok (.aload_n 0, 1) := by decide +kernel
theorem dX6_is_9 : decode cX6_is 9 = .ok (.getfield 72, 3) := by decide +kernel
theorem dX6_is_12 : decode cX6_is 12 = .ok (.aload_n 0, 1) := by decide +kernel
theorem dX6_is_13 : decode cX6_is 13 = .ok (.getfield 215, 3) := by decide +kernel
theorem dX6_is_16 : decode cX6_is 16 = .ok (.iaload, 1) := by decide +kernel
theorem dX6_is_17 : decode cX6_is 17 = .ok (.iload_n 1, 1) := by decide +kernel
theorem dX6_is_18 : decode cX6_is 18 = .ok (.if_icmp .ne 7, 3) := by decide +kernel
theorem dX6_is_21 : decode cX6_is 21 = .ok (.iconst 1, 1) := by decide +kernel
theorem dX6_is_22 : decode cX6_is 22 = .ok (.goto 4, 3) := by decide +kernel
theorem dX6_is_25 : decode cX6_is 25 = .ok (.iconst 0, 1) := by decide +kernel
theorem dX6_is_26 : decode cX6_is 26 = .ok (.ireturn, 1) := by decide +kernel
theorem dX6_name_0 : decode cX6_name 0 = .ok (.lconst 0, 1) := by decide +kernel
theorem dX6_name_1 : decode cX6_name 1 = .ok (.lstore_n 1, 1) := by decide +kernel
theorem dX6_name_2 : decode cX6_name 2 = .ok (.aload_n 0, 1) := by decide +kernel
theorem dX6_name_3 : decode cX6_name 3 = .ok (.getfield 215, 3) := by decide +kernel
theorem dX6_name_6 : decode cX6_name 6 = .ok (.istore_n 3, 1) := by decide +kernel
theorem dX6_name_7 : decode cX6_name 7 = .ok (.iload_n 3, 1) := by decide +kernel
theorem dX6_name_8 : decode cX6_name 8 = .ok (.aload_n 0, 1) := by decide +kernel
theorem dX6_name_9 : decode cX6_name 9 = .ok (.getfield 227, 3) := by decide +kernel
theorem dX6_name_12 : decode cX6_name 12 = .ok (.if_icmp .ge 30, 3) := by decide +kernel
theorem dX6_name_15 : decode cX6_name 15 = .ok (.aload_n 0, 1) := by decide +kernel
theorem dX6_name_16 : decode cX6_name 16 = .ok (.getfield 218, 3) := by decide +kernel
theorem dX6_name_19 : decode cX6_name 19 = .ok (.iconst 2, 1) := by decide +kernel
theorem dX6_name_20 : decode cX6_name 20 = .ok (.if_icmp .ne 22, 3) := by decide +kernel
theorem dX6_name_23 : decode cX6_name 23 = .ok (.lload_n 1, 1) := by decide +kernel
theorem dX6_name_24 : decode cX6_name 24 = .ok (.bipush 8, 2) := by decide +kernel
theorem dX6_name_26 : decode cX6_name 26 = .ok (.lshl, 1) := by decide +kernel
theorem dX6_name_27 : decode cX6_name 27 = .ok (.aload_n 0, 1) := by decide +kernel
theorem dX6_name_28 : decode cX6_name 28 = .ok (.getfield 72, 3) := by decide +kernel
theorem dX6_name_31 : decode cX6_name 31 = .ok (.iload_n 3, 1) := by decide +kernel
theorem dX6_name_32 : decode cX6_name 32 = .ok (.iaload, 1) := by decide +kernel
theorem dX6_name_33 : decode cX6_name 33 = .ok (.i2l, 1) := by decide +kernel
theorem dX6_name_34 : decode cX6_name 34 = .ok (.lor, 1) := by decide +kernel
theorem dX6_name_35 : decode cX6_name 35 = .ok (.lstore_n 1, 1) := by decide +kernel
theorem dX6_name_36 : decode cX6_name 36 = .ok (.iinc 3 1, 3) := by decide +kernel
theorem dX6_name_39 : decode cX6_name 39 = .ok (.goto (-32), 3) := by decide +kernel
theorem dX6_name_42 : decode cX6_name 42 = .ok (.lload_n 1, 1) := by decide +kernel
theorem dX6_name_43 : decode cX6_name 43 = .ok (.lreturn, 1) := by decide +kernel
theorem dX6_number_0 : decode cX6_number 0 = .ok (.iconst 0, 1) := by decide +kernel
theorem dX6_number_1 : decode cX6_number 1 = .ok (.istore_n 1, 1) := by decide +kernel
theorem dX6_number_2 : decode cX6_number 2 = .ok (.aload_n 0, 1) := by decide +kernel
theorem dX6_number_3 : decode cX6_number 3 = .ok (.getfield 215, 3) := by decide +kernel
theorem dX6_number_6 : decode cX6_number 6 = .ok (.istore_n 2, 1) := by decide +kernel
theorem dX6_number_7 : decode cX6_number 7 = .ok (.iload_n 2, 1) := by decide +kernel
theorem dX6_number_8 : decode cX6_number 8 = .ok (.aload_n 0, 1) := by decide +kernel
theorem dX6_number_9 : decode cX6_number 9 = .ok (.getfield 227, 3) := by decide +kernel
theorem dX6_number_12 : decode cX6_number 12 = .ok (.if_icmp .ge 32, 3) := by decide +kernel
theorem dX6_number_15 : decode cX6_number 15 = .ok (.aload_n 0, 1) := by decide +kernel
theorem dX6_number_16 : decode cX6_number 16 = .ok (.getfield 218, 3) := by decide +kernel
theorem dX6_number_19 : decode cX6_number 19 = .ok (.iconst 3, 1) := by decide +kernel
theorem dX6_number_20 : decode cX6_number 20 = .ok (.if_icmp .ne 24, 3) := by decide +kernel
theorem dX6_number_23 : decode cX6_number 23 = .ok (.bipush 10, 2) := by decide +kernel
theorem dX6_number_25 : decode cX6_number 25 = .ok (.iload_n 1, 1) := by decide +kernel
theorem dX6_number_26 : decode cX6_number 26 = .ok (.imul, 1) := by decide +kernel
theorem dX6_number_27 : decode cX6_number 27 = .ok (.aload_n 0, 1) := by decide +kernel
theorem dX6_number_28 : decode cX6_number 28 = .ok (.getfield 72, 3) := by decide +kernel
theorem dX6_number_31 : decode cX6_number 31 = .ok (.iload_n 2, 1) := by decide +kernel
theorem dX6_number_32 : decode cX6_number 32 = .ok (.iaload, 1) := by decide +kernel
theorem dX6_number_33 : decode cX6_number 33 = .ok (.iadd, 1) := by decide +kernel
theorem dX6_number_34 : decode cX6_number 34 = .ok (.bipush 48, 2) := by decide +kernel
theorem dX6_number_36 : decode cX6_number 36 = .ok (.isub, 1) := by decide +kernel
theorem dX6_number_37 : decode cX6_number 37 = .ok (.istore_n 1, 1) := by decide +kernel
theorem dX6_number_38 : decode cX6_number 38 = .ok (.iinc 2 1, 3) := by decide +kernel
theorem dX6_number_41 : decode cX6_number 41 = .ok (.goto (-34), 3) := by decide +kernel
theorem dX6_number_44 : decode cX6_number 44 = .ok (.iload_n 1, 1) := by decide +kernel
theorem dX6_number_45 : decode cX6_number 45 = .ok (.ireturn, 1) := by decide +kernel
theorem dX6_readOne_0 : decode cX6_readOne 0 = .ok (.aload_n 0, 1) := by decide +kernel
theorem dX6_readOne_1 : decode cX6_readOne 1 = .ok (.aload_n 0, 1) := by decide +kernel
theorem dX6_readOne_2 : decode cX6_readOne 2 = .ok (.invokevirtual 243, 3) := by decide +kernel
theorem dX6_readOne_5 : decode cX6_readOne 5 = .ok (.ldc2_w 247, 3) := by decide +kernel
theorem dX6_readOne_8 : decode cX6_readOne 8 = .ok (.lcmp, 1) := by decide +kernel
theorem dX6_readOne_9 : decode cX6_readOne 9 = .ok (.ifCond .ne 7, 3) := by decide +kernel
theorem dX6_readOne_12 : decode cX6_readOne 12 = .ok (.iconst 1, 1) := by decide +kernel
theorem dX6_readOne_13 : decode cX6_readOne 13 = .ok (.goto 4, 3) := by decide +kernel
theorem dX6_readOne_16 : decode cX6_readOne 16 = .ok (.iconst 0, 1) := by decide +kernel
theorem dX6_readOne_17 : decode cX6_readOne 17 = .ok (.invokevirtual 249, 3) := by decide +kernel
theorem dX6_readOne_20 : decode cX6_readOne 20 = .ok (.aload_n 0, 1) := by decide +kernel
theorem dX6_readOne_21 : decode cX6_readOne 21 = .ok (.getfield 230, 3) := by decide +kernel
theorem dX6_readOne_24 : decode cX6_readOne 24 = .ok (.ifCond .ne 27, 3) := by decide +kernel
theorem dX6_readOne_27 : decode cX6_readOne 27 = .ok (.aload_n 0, 1) := by decide +kernel
theorem dX6_readOne_28 : decode cX6_readOne 28 = .ok (.getfield 218, 3) := by decide +kernel
theorem dX6_readOne_31 : decode cX6_readOne 31 = .ok (.iconst 3, 1) := by decide +kernel
theorem dX6_readOne_32 : decode cX6_readOne 32 = .ok (.if_icmp .ne 19, 3) := by decide +kernel
theorem dX6_readOne_35 : decode cX6_readOne 35 = .ok (.aload_n 0, 1) := by decide +kernel
theorem dX6_readOne_36 : decode cX6_readOne 36 = .ok (.aload_n 0, 1) := by decide +kernel
theorem dX6_readOne_37 : decode cX6_readOne 37 = .ok (.invokevirtual 253, 3) := by decide +kernel
theorem dX6_readOne_40 : decode cX6_readOne 40 = .ok (.invokevirtual 108, 3) := by decide +kernel
theorem dX6_readOne_43 : decode cX6_readOne 43 = .ok (.ifCond .ne 8, 3) := by decide +kernel
theorem dX6_readOne_46 : decode cX6_readOne 46 = .ok (.aload_n 0, 1) := by decide +kernel
theorem dX6_readOne_47 : decode cX6_readOne 47 = .ok (.iconst 2, 1) := by decide +kernel
theorem dX6_readOne_48 : decode cX6_readOne 48 = .ok (.invokevirtual 236, 3) := by decide +kernel
theorem dX6_readOne_51 : decode cX6_readOne 51 = .ok (.aload_n 0, 1) := by decide +kernel
theorem dX6_readOne_52 : decode cX6_readOne 52 = .ok (.invokevirtual 253, 3) := by decide +kernel
theorem dX6_readOne_55 : decode cX6_readOne 55 = .ok (.istore_n 1, 1) := by decide +kernel
theorem dX6_readOne_56 : decode cX6_readOne 56 = .ok (.aload_n 0, 1) := by decide +kernel
theorem dX6_readOne_57 : decode cX6_readOne 57 = .ok (.aload_n 0, 1) := by decide +kernel
theorem dX6_readOne_58 : decode cX6_readOne 58 = .ok (.getfield 218, 3) := by decide +kernel
theorem dX6_readOne_61 : decode cX6_readOne 61 = .ok (.iconst 3, 1) := by decide +kernel
theorem dX6_readOne_62 : decode cX6_readOne 62 = .ok (.if_icmp .ne 7, 3) := by decide +kernel
theorem dX6_readOne_65 : decode cX6_readOne 65 = .ok (.iconst 1, 1) := by decide +kernel
theorem dX6_readOne_66 : decode cX6_readOne 66 = .ok (.goto 4, 3) := by decide +kernel
theorem dX6_readOne_69 : decode cX6_readOne 69 = .ok (.iconst 0, 1) := by decide +kernel
theorem dX6_readOne_70 : decode cX6_readOne 70 = .ok (.invokevirtual 249, 3) := by decide +kernel
theorem dX6_readOne_73 : decode cX6_readOne 73 = .ok (.aload_n 0, 1) := by decide +kernel
theorem dX6_readOne_74 : decode cX6_readOne 74 = .ok (.invokevirtual 243, 3) := by decide +kernel
theorem dX6_readOne_77 : decode cX6_readOne 77 = .ok (.lstore_n 2, 1) := by decide +kernel
theorem dX6_readOne_78 : decode cX6_readOne 78 = .ok (.lload_n 2, 1) := by decide +kernel
theorem dX6_readOne_79 : decode cX6_readOne 79 = .ok (.ldc2_w 256, 3) := by decide +kernel
theorem dX6_readOne_82 : decode cX6_readOne 82 = .ok (.lcmp, 1) := by decide +kernel
theorem dX6_readOne_83 : decode cX6_readOne 83 = .ok (.ifCond .ne 7, 3) := by decide +kernel
theorem dX6_readOne_86 : decode cX6_readOne 86 = .ok (.iconst 1, 1) := by decide +kernel
theorem dX6_readOne_87 : decode cX6_readOne 87 = .ok (.goto 16, 3) := by decide +kernel
theorem dX6_readOne_90 : decode cX6_readOne 90 = .ok (.lload_n 2, 1) := by decide +kernel
theorem dX6_readOne_91 : decode cX6_readOne 91 = .ok (.ldc2_w 258, 3) := by decide +kernel
theorem dX6_readOne_94 : decode cX6_readOne 94 = .ok (.lcmp, 1) := by decide +kernel
theorem dX6_readOne_95 : decode cX6_readOne 95 = .ok (.ifCond .ne 7, 3) := by decide +kernel
theorem dX6_readOne_98 : decode cX6_readOne 98 = .ok (.iconst 2, 1) := by decide +kernel
theorem dX6_readOne_99 : decode cX6_readOne 99 = .ok (.goto 4, 3) := by decide +kernel
theorem dX6_readOne_102 : decode cX6_readOne 102 = .ok (.iconst 0, 1) := by decide +kernel
theorem dX6_readOne_103 : decode cX6_readOne 103 = .ok (.istore 4, 2) := by decide +kernel
theorem dX6_readOne_105 : decode cX6_readOne 105 = .ok (.aload_n 0, 1) := by decide +kernel
theorem dX6_readOne_106 : decode cX6_readOne 106 = .ok (.iload 4, 2) := by decide +kernel
theorem dX6_readOne_108 : decode cX6_readOne 108 = .ok (.ifCond .gt 11, 3) := by decide +kernel
theorem dX6_readOne_111 : decode cX6_readOne 111 = .ok (.lload_n 2, 1) := by decide +kernel
theorem dX6_readOne_112 : decode cX6_readOne 112 = .ok (.ldc2_w 260, 3) := by decide +kernel
theorem dX6_readOne_115 : decode cX6_readOne 115 = .ok (.lcmp, 1) := by decide +kernel
theorem dX6_readOne_116 : decode cX6_readOne 116 = .ok (.ifCond .ne 7, 3) := by decide +kernel
theorem dX6_readOne_119 : decode cX6_readOne 119 = .ok (.iconst 1, 1) := by decide +kernel
theorem dX6_readOne_120 : decode cX6_readOne 120 = .ok (.goto 4, 3) := by decide +kernel
theorem dX6_readOne_123 : decode cX6_readOne 123 = .ok (.iconst 0, 1) := by decide +kernel
theorem dX6_readOne_124 : decode cX6_readOne 124 = .ok (.invokevirtual 249, 3) := by decide +kernel
theorem dX6_readOne_127 : decode cX6_readOne 127 = .ok (.iload 4, 2) := by decide +kernel
theorem dX6_readOne_129 : decode cX6_readOne 129 = .ok (.iconst 2, 1) := by decide +kernel
theorem dX6_readOne_130 : decode cX6_readOne 130 = .ok (.if_icmp .ne 10, 3) := by decide +kernel
theorem dX6_readOne_133 : decode cX6_readOne 133 = .ok (.aload_n 0, 1) := by decide +kernel
theorem dX6_readOne_134 : decode cX6_readOne 134 = .ok (.invokevirtual 253, 3) := by decide +kernel
theorem dX6_readOne_137 : decode cX6_readOne 137 = .ok (.goto 4, 3) := by decide +kernel
theorem dX6_readOne_140 : decode cX6_readOne 140 = .ok (.iconst 0, 1) := by decide +kernel
theorem dX6_readOne_141 : decode cX6_readOne 141 = .ok (.istore 5, 2) := by decide +kernel
theorem dX6_readOne_143 : decode cX6_readOne 143 = .ok (.iload 4, 2) := by decide +kernel
theorem dX6_readOne_145 : decode cX6_readOne 145 = .ok (.iconst 2, 1) := by decide +kernel
theorem dX6_readOne_146 : decode cX6_readOne 146 = .ok (.if_icmp .ne 30, 3) := by decide +kernel
theorem dX6_readOne_149 : decode cX6_readOne 149 = .ok (.aload_n 0, 1) := by decide +kernel
theorem dX6_readOne_150 : decode cX6_readOne 150 = .ok (.aload_n 0, 1) := by decide +kernel
theorem dX6_readOne_151 : decode cX6_readOne 151 = .ok (.getfield 218, 3) := by decide +kernel
theorem dX6_readOne_154 : decode cX6_readOne 154 = .ok (.iconst 3, 1) := by decide +kernel
theorem dX6_readOne_155 : decode cX6_readOne 155 = .ok (.if_icmp .ne 7, 3) := by decide +kernel
theorem dX6_readOne_158 : decode cX6_readOne 158 = .ok (.iconst 1, 1) := by decide +kernel
theorem dX6_readOne_159 : decode cX6_readOne 159 = .ok (.goto 4, 3) := by decide +kernel
theorem dX6_readOne_162 : decode cX6_readOne 162 = .ok (.iconst 0, 1) := by decide +kernel
theorem dX6_readOne_163 : decode cX6_readOne 163 = .ok (.invokevirtual 249, 3) := by decide +kernel
theorem dX6_readOne_166 : decode cX6_readOne 166 = .ok (.aload_n 0, 1) := by decide +kernel
theorem dX6_readOne_167 : decode cX6_readOne 167 = .ok (.aload_n 0, 1) := by decide +kernel
theorem dX6_readOne_168 : decode cX6_readOne 168 = .ok (.bipush 64, 2) := by decide +kernel
theorem dX6_readOne_170 : decode cX6_readOne 170 = .ok (.invokevirtual 262, 3) := by decide +kernel
theorem dX6_readOne_173 : decode cX6_readOne 173 = .ok (.invokevirtual 249, 3) := by decide +kernel
theorem dX6_readOne_176 : decode cX6_readOne 176 = .ok (.iload 4, 2) := by decide +kernel
theorem dX6_readOne_178 : decode cX6_readOne 178 = .ok (.ifCond .le 10, 3) := by decide +kernel
theorem dX6_readOne_181 : decode cX6_readOne 181 = .ok (.aload_n 0, 1) := by decide +kernel
theorem dX6_readOne_182 : decode cX6_readOne 182 = .ok (.invokevirtual 253, 3) := by decide +kernel
theorem dX6_readOne_185 : decode cX6_readOne 185 = .ok (.goto 4, 3) := by decide +kernel
theorem dX6_readOne_188 : decode cX6_readOne 188 = .ok (.iconst 0, 1) := by decide +kernel
theorem dX6_readOne_189 : decode cX6_readOne 189 = .ok (.istore 6, 2) := by decide +kernel
theorem dX6_readOne_191 : decode cX6_readOne 191 = .ok (.iload 4, 2) := by decide +kernel
theorem dX6_readOne_193 : decode cX6_readOne 193 = .ok (.ifCond .le 20, 3) := by decide +kernel
theorem dX6_readOne_196 : decode cX6_readOne 196 = .ok (.aload_n 0, 1) := by decide +kernel
theorem dX6_readOne_197 : decode cX6_readOne 197 = .ok (.aload_n 0, 1) := by decide +kernel
theorem dX6_readOne_198 : decode cX6_readOne 198 = .ok (.getfield 218, 3) := by decide +kernel
theorem dX6_readOne_201 : decode cX6_readOne 201 = .ok (.iconst 3, 1) := by decide +kernel
theorem dX6_readOne_202 : decode cX6_readOne 202 = .ok (.if_icmp .ne 7, 3) := by decide +kernel
theorem dX6_readOne_205 : decode cX6_readOne 205 = .ok (.iconst 1, 1) := by decide +kernel
theorem dX6_readOne_206 : decode cX6_readOne 206 = .ok (.goto 4, 3) := by decide +kernel
theorem dX6_readOne_209 : decode cX6_readOne 209 = .ok (.iconst 0, 1) := by decide +kernel
theorem dX6_readOne_210 : decode cX6_readOne 210 = .ok (.invokevirtual 249, 3) := by decide +kernel
theorem dX6_readOne_213 : decode cX6_readOne 213 = .ok (.aload_n 0, 1) := by decide +kernel
theorem dX6_readOne_214 : decode cX6_readOne 214 = .ok (.aload_n 0, 1) := by decide +kernel
theorem dX6_readOne_215 : decode cX6_readOne 215 = .ok (.bipush 59, 2) := by decide +kernel
theorem dX6_readOne_217 : decode cX6_readOne 217 = .ok (.invokevirtual 262, 3) := by decide +kernel
theorem dX6_readOne_220 : decode cX6_readOne 220 = .ok (.invokevirtual 249, 3) := by decide +kernel
theorem dX6_readOne_223 : decode cX6_readOne 223 = .ok (.aload_n 0, 1) := by decide +kernel
theorem dX6_readOne_224 : decode cX6_readOne 224 = .ok (.getfield 230, 3) := by decide +kernel
theorem dX6_readOne_227 : decode cX6_readOne 227 = .ok (.ifCond .ne 56, 3) := by decide +kernel
theorem dX6_readOne_230 : decode cX6_readOne 230 = .ok (.aload_n 0, 1) := by decide +kernel
theorem dX6_readOne_231 : decode cX6_readOne 231 = .ok (.getfield 75, 3) := by decide +kernel
theorem dX6_readOne_234 : decode cX6_readOne 234 = .ok (.aload_n 0, 1) := by decide +kernel
theorem dX6_readOne_235 : decode cX6_readOne 235 = .ok (.getfield 265, 3) := by decide +kernel
theorem dX6_readOne_238 : decode cX6_readOne 238 = .ok (.iload_n 1, 1) := by decide +kernel
theorem dX6_readOne_239 : decode cX6_readOne 239 = .ok (.iastore, 1) := by decide +kernel
theorem dX6_readOne_240 : decode cX6_readOne 240 = .ok (.aload_n 0, 1) := by decide +kernel
theorem dX6_readOne_241 : decode cX6_readOne 241 = .ok (.getfield 78, 3) := by decide +kernel
theorem dX6_readOne_244 : decode cX6_readOne 244 = .ok (.aload_n 0, 1) := by decide +kernel
theorem dX6_readOne_245 : decode cX6_readOne 245 = .ok (.getfield 265, 3) := by decide +kernel
theorem dX6_readOne_248 : decode cX6_readOne 248 = .ok (.iload 4, 2) := by decide +kernel
theorem dX6_readOne_250 : decode cX6_readOne 250 = .ok (.iastore, 1) := by decide +kernel
theorem dX6_readOne_251 : decode cX6_readOne 251 = .ok (.aload_n 0, 1) := by decide +kernel
theorem dX6_readOne_252 : decode cX6_readOne 252 = .ok (.getfield 81, 3) := by decide +kernel
theorem dX6_readOne_255 : decode cX6_readOne 255 = .ok (.aload_n 0, 1) := by decide +kernel
theorem dX6_readOne_256 : decode cX6_readOne 256 = .ok (.getfield 265, 3) := by decide +kernel
theorem dX6_readOne_259 : decode cX6_readOne 259 = .ok (.iload 5, 2) := by decide +kernel
theorem dX6_readOne_261 : decode cX6_readOne 261 = .ok (.iastore, 1) := by decide +kernel
theorem dX6_readOne_262 : decode cX6_readOne 262 = .ok (.aload_n 0, 1) := by decide +kernel
theorem dX6_readOne_263 : decode cX6_readOne 263 = .ok (.getfield 84, 3) := by decide +kernel
theorem dX6_readOne_266 : decode cX6_readOne 266 = .ok (.aload_n 0, 1) := by decide +kernel
theorem dX6_readOne_267 : decode cX6_readOne 267 = .ok (.getfield 265, 3) := by decide +kernel
theorem dX6_readOne_270 : decode cX6_readOne 270 = .ok (.iload 6, 2) := by decide +kernel
theorem dX6_readOne_272 : decode cX6_readOne 272 = .ok (.iastore, 1) := by decide +kernel
theorem dX6_readOne_273 : decode cX6_readOne 273 = .ok (.aload_n 0, 1) := by decide +kernel
theorem dX6_readOne_274 : decode cX6_readOne 274 = .ok (.dup, 1) := by decide +kernel
theorem dX6_readOne_275 : decode cX6_readOne 275 = .ok (.getfield 265, 3) := by decide +kernel
theorem dX6_readOne_278 : decode cX6_readOne 278 = .ok (.iconst 1, 1) := by decide +kernel
theorem dX6_readOne_279 : decode cX6_readOne 279 = .ok (.iadd, 1) := by decide +kernel
theorem dX6_readOne_280 : decode cX6_readOne 280 = .ok (.putfield 265, 3) := by decide +kernel
theorem dX6_readOne_283 : decode cX6_readOne 283 = .ok (.return_, 1) := by decide +kernel
theorem dX6_plans_0 : decode cX6_plans 0 = .ok (.aload_n 0, 1) := by decide +kernel
theorem dX6_plans_1 : decode cX6_plans 1 = .ok (.iconst 0, 1) := by decide +kernel
theorem dX6_plans_2 : decode cX6_plans 2 = .ok (.putfield 90, 3) := by decide +kernel
theorem dX6_plans_5 : decode cX6_plans 5 = .ok (.aload_n 0, 1) := by decide +kernel
theorem dX6_plans_6 : decode cX6_plans 6 = .ok (.aload_n 0, 1) := by decide +kernel
theorem dX6_plans_7 : decode cX6_plans 7 = .ok (.getfield 201, 3) := by decide +kernel
theorem dX6_plans_10 : decode cX6_plans 10 = .ok (.putfield 206, 3) := by decide +kernel
theorem dX6_plans_13 : decode cX6_plans 13 = .ok (.aload_n 0, 1) := by decide +kernel
theorem dX6_plans_14 : decode cX6_plans 14 = .ok (.iconst 0, 1) := by decide +kernel
theorem dX6_plans_15 : decode cX6_plans 15 = .ok (.putfield 201, 3) := by decide +kernel
theorem dX6_plans_18 : decode cX6_plans 18 = .ok (.aload_n 0, 1) := by decide +kernel
theorem dX6_plans_19 : decode cX6_plans 19 = .ok (.iconst 0, 1) := by decide +kernel
theorem dX6_plans_20 : decode cX6_plans 20 = .ok (.putfield 209, 3) := by decide +kernel
theorem dX6_plans_23 : decode cX6_plans 23 = .ok (.aload_n 0, 1) := by decide +kernel
theorem dX6_plans_24 : decode cX6_plans 24 = .ok (.iconst 0, 1) := by decide +kernel
theorem dX6_plans_25 : decode cX6_plans 25 = .ok (.putfield 230, 3) := by decide +kernel
theorem dX6_plans_28 : decode cX6_plans 28 = .ok (.aload_n 0, 1) := by decide +kernel
theorem dX6_plans_29 : decode cX6_plans 29 = .ok (.iconst 0, 1) := by decide +kernel
theorem dX6_plans_30 : decode cX6_plans 30 = .ok (.putfield 265, 3) := by decide +kernel
theorem dX6_plans_33 : decode cX6_plans 33 = .ok (.aload_n 0, 1) := by decide +kernel
theorem dX6_plans_34 : decode cX6_plans 34 = .ok (.invokevirtual 240, 3) := by decide +kernel
theorem dX6_plans_37 : decode cX6_plans 37 = .ok (.aload_n 0, 1) := by decide +kernel
theorem dX6_plans_38 : decode cX6_plans 38 = .ok (.getfield 230, 3) := by decide +kernel
theorem dX6_plans_41 : decode cX6_plans 41 = .ok (.ifCond .ne 18, 3) := by decide +kernel
theorem dX6_plans_44 : decode cX6_plans 44 = .ok (.aload_n 0, 1) := by decide +kernel
theorem dX6_plans_45 : decode cX6_plans 45 = .ok (.getfield 218, 3) := by decide +kernel
theorem dX6_plans_48 : decode cX6_plans 48 = .ok (.iconst 1, 1) := by decide +kernel
theorem dX6_plans_49 : decode cX6_plans 49 = .ok (.if_icmp .eq 10, 3) := by decide +kernel
theorem dX6_plans_52 : decode cX6_plans 52 = .ok (.aload_n 0, 1) := by decide +kernel
theorem dX6_plans_53 : decode cX6_plans 53 = .ok (.invokevirtual 268, 3) := by decide +kernel
theorem dX6_plans_56 : decode cX6_plans 56 = .ok (.goto (-19), 3) := by decide +kernel
theorem dX6_plans_59 : decode cX6_plans 59 = .ok (.aload_n 0, 1) := by decide +kernel
theorem dX6_plans_60 : decode cX6_plans 60 = .ok (.getfield 230, 3) := by decide +kernel
theorem dX6_plans_63 : decode cX6_plans 63 = .ok (.ifCond .le 20, 3) := by decide +kernel
theorem dX6_plans_66 : decode cX6_plans 66 = .ok (.aload_n 0, 1) := by decide +kernel
theorem dX6_plans_67 : decode cX6_plans 67 = .ok (.aload_n 0, 1) := by decide +kernel
theorem dX6_plans_68 : decode cX6_plans 68 = .ok (.getfield 230, 3) := by decide +kernel
theorem dX6_plans_71 : decode cX6_plans 71 = .ok (.putfield 271, 3) := by decide +kernel
theorem dX6_plans_74 : decode cX6_plans 74 = .ok (.ldc_w 274, 3) := by decide +kernel
theorem dX6_plans_77 : decode cX6_plans 77 = .ok (.aload_n 0, 1) := by decide +kernel
theorem dX6_plans_78 : decode cX6_plans 78 = .ok (.getfield 233, 3) := by decide +kernel
theorem dX6_plans_81 : decode cX6_plans 81 = .ok (.isub, 1) := by decide +kernel
theorem dX6_plans_82 : decode cX6_plans 82 = .ok (.ireturn, 1) := by decide +kernel
theorem dX6_plans_83 : decode cX6_plans 83 = .ok (.iconst 0, 1) := by decide +kernel
theorem dX6_plans_84 : decode cX6_plans 84 = .ok (.istore_n 1, 1) := by decide +kernel
theorem dX6_plans_85 : decode cX6_plans 85 = .ok (.iload_n 1, 1) := by decide +kernel
theorem dX6_plans_86 : decode cX6_plans 86 = .ok (.aload_n 0, 1) := by decide +kernel
theorem dX6_plans_87 : decode cX6_plans 87 = .ok (.getfield 265, 3) := by decide +kernel
theorem dX6_plans_90 : decode cX6_plans 90 = .ok (.if_icmp .ge 52, 3) := by decide +kernel
theorem dX6_plans_93 : decode cX6_plans 93 = .ok (.aload_n 0, 1) := by decide +kernel
theorem dX6_plans_94 : decode cX6_plans 94 = .ok (.getfield 75, 3) := by decide +kernel
theorem dX6_plans_97 : decode cX6_plans 97 = .ok (.iload_n 1, 1) := by decide +kernel
theorem dX6_plans_98 : decode cX6_plans 98 = .ok (.iaload, 1) := by decide +kernel
theorem dX6_plans_99 : decode cX6_plans 99 = .ok (.istore_n 2, 1) := by decide +kernel
theorem dX6_plans_100 : decode cX6_plans 100 = .ok (.aload_n 0, 1) := by decide +kernel
theorem dX6_plans_101 : decode cX6_plans 101 = .ok (.getfield 44, 3) := by decide +kernel
theorem dX6_plans_104 : decode cX6_plans 104 = .ok (.iload_n 2, 1) := by decide +kernel
theorem dX6_plans_105 : decode cX6_plans 105 = .ok (.aload_n 0, 1) := by decide +kernel
theorem dX6_plans_106 : decode cX6_plans 106 = .ok (.getfield 78, 3) := by decide +kernel
theorem dX6_plans_109 : decode cX6_plans 109 = .ok (.iload_n 1, 1) := by decide +kernel
theorem dX6_plans_110 : decode cX6_plans 110 = .ok (.iaload, 1) := by decide +kernel
theorem dX6_plans_111 : decode cX6_plans 111 = .ok (.iastore, 1) := by decide +kernel
theorem dX6_plans_112 : decode cX6_plans 112 = .ok (.aload_n 0, 1) := by decide +kernel
theorem dX6_plans_113 : decode cX6_plans 113 = .ok (.getfield 47, 3) := by decide +kernel
theorem dX6_plans_116 : decode cX6_plans 116 = .ok (.iload_n 2, 1) := by decide +kernel
theorem dX6_plans_117 : decode cX6_plans 117 = .ok (.aload_n 0, 1) := by decide +kernel
theorem dX6_plans_118 : decode cX6_plans 118 = .ok (.getfield 81, 3) := by decide +kernel
theorem dX6_plans_121 : decode cX6_plans 121 = .ok (.iload_n 1, 1) := by decide +kernel
theorem dX6_plans_122 : decode cX6_plans 122 = .ok (.iaload, 1) := by decide +kernel
theorem dX6_plans_123 : decode cX6_plans 123 = .ok (.iastore, 1) := by decide +kernel
theorem dX6_plans_124 : decode cX6_plans 124 = .ok (.aload_n 0, 1) := by decide +kernel
theorem dX6_plans_125 : decode cX6_plans 125 = .ok (.getfield 50, 3) := by decide +kernel
theorem dX6_plans_128 : decode cX6_plans 128 = .ok (.iload_n 2, 1) := by decide +kernel
theorem dX6_plans_129 : decode cX6_plans 129 = .ok (.aload_n 0, 1) := by decide +kernel
theorem dX6_plans_130 : decode cX6_plans 130 = .ok (.getfield 84, 3) := by decide +kernel
theorem dX6_plans_133 : decode cX6_plans 133 = .ok (.iload_n 1, 1) := by decide +kernel
theorem dX6_plans_134 : decode cX6_plans 134 = .ok (.iaload, 1) := by decide +kernel
theorem dX6_plans_135 : decode cX6_plans 135 = .ok (.iastore, 1) := by decide +kernel
theorem dX6_plans_136 : decode cX6_plans 136 = .ok (.iinc 1 1, 3) := by decide +kernel
theorem dX6_plans_139 : decode cX6_plans 139 = .ok (.goto (-54), 3) := by decide +kernel
theorem dX6_plans_142 : decode cX6_plans 142 = .ok (.aload_n 0, 1) := by decide +kernel
theorem dX6_plans_143 : decode cX6_plans 143 = .ok (.getfield 265, 3) := by decide +kernel
theorem dX6_plans_146 : decode cX6_plans 146 = .ok (.ireturn, 1) := by decide +kernel
theorem dX6_fault_0 : decode cX6_fault 0 = .ok (.aload_n 0, 1) := by decide +kernel
theorem dX6_fault_1 : decode cX6_fault 1 = .ok (.iconst 0, 1) := by decide +kernel
theorem dX6_fault_2 : decode cX6_fault 2 = .ok (.putfield 90, 3) := by decide +kernel
theorem dX6_fault_5 : decode cX6_fault 5 = .ok (.aload_n 0, 1) := by decide +kernel
theorem dX6_fault_6 : decode cX6_fault 6 = .ok (.getfield 271, 3) := by decide +kernel
theorem dX6_fault_9 : decode cX6_fault 9 = .ok (.ireturn, 1) := by decide +kernel
theorem dX6_kindOf_0 : decode cX6_kindOf 0 = .ok (.aload_n 0, 1) := by decide +kernel
theorem dX6_kindOf_1 : decode cX6_kindOf 1 = .ok (.getfield 31, 3) := by decide +kernel
theorem dX6_kindOf_4 : decode cX6_kindOf 4 = .ok (.iload_n 1, 1) := by decide +kernel
theorem dX6_kindOf_5 : decode cX6_kindOf 5 = .ok (.iaload, 1) := by decide +kernel
theorem dX6_kindOf_6 : decode cX6_kindOf 6 = .ok (.iconst 1, 1) := by decide +kernel
theorem dX6_kindOf_7 : decode cX6_kindOf 7 = .ok (.if_icmp .ne 7, 3) := by decide +kernel
theorem dX6_kindOf_10 : decode cX6_kindOf 10 = .ok (.iconst 3, 1) := by decide +kernel
theorem dX6_kindOf_11 : decode cX6_kindOf 11 = .ok (.goto 57, 3) := by decide +kernel
theorem dX6_kindOf_14 : decode cX6_kindOf 14 = .ok (.aload_n 0, 1) := by decide +kernel
theorem dX6_kindOf_15 : decode cX6_kindOf 15 = .ok (.getfield 28, 3) := by decide +kernel
theorem dX6_kindOf_18 : decode cX6_kindOf 18 = .ok (.iload_n 1, 1) := by decide +kernel
theorem dX6_kindOf_19 : decode cX6_kindOf 19 = .ok (.iaload, 1) := by decide +kernel
theorem dX6_kindOf_20 : decode cX6_kindOf 20 = .ok (.iconst 3, 1) := by decide +kernel
theorem dX6_kindOf_21 : decode cX6_kindOf 21 = .ok (.if_icmp .lt 12, 3) := by decide +kernel
theorem dX6_kindOf_24 : decode cX6_kindOf 24 = .ok (.aload_n 0, 1) := by decide +kernel
theorem dX6_kindOf_25 : decode cX6_kindOf 25 = .ok (.getfield 34, 3) := by decide +kernel
theorem dX6_kindOf_28 : decode cX6_kindOf 28 = .ok (.iload_n 1, 1) := by decide +kernel
theorem dX6_kindOf_29 : decode cX6_kindOf 29 = .ok (.baload, 1) := by decide +kernel
theorem dX6_kindOf_30 : decode cX6_kindOf 30 = .ok (.ifCond .eq 7, 3) := by decide +kernel
theorem dX6_kindOf_33 : decode cX6_kindOf 33 = .ok (.iconst 0, 1) := by decide +kernel
theorem dX6_kindOf_34 : decode cX6_kindOf 34 = .ok (.goto 34, 3) := by decide +kernel
theorem dX6_kindOf_37 : decode cX6_kindOf 37 = .ok (.aload_n 0, 1) := by decide +kernel
theorem dX6_kindOf_38 : decode cX6_kindOf 38 = .ok (.getfield 19, 3) := by decide +kernel
theorem dX6_kindOf_41 : decode cX6_kindOf 41 = .ok (.iconst 4, 1) := by decide +kernel
theorem dX6_kindOf_42 : decode cX6_kindOf 42 = .ok (.iload_n 1, 1) := by decide +kernel
theorem dX6_kindOf_43 : decode cX6_kindOf 43 = .ok (.imul, 1) := by decide +kernel
theorem dX6_kindOf_44 : decode cX6_kindOf 44 = .ok (.iconst 1, 1) := by decide +kernel
theorem dX6_kindOf_45 : decode cX6_kindOf 45 = .ok (.iadd, 1) := by decide +kernel
theorem dX6_kindOf_46 : decode cX6_kindOf 46 = .ok (.iaload, 1) := by decide +kernel
theorem dX6_kindOf_47 : decode cX6_kindOf 47 = .ok (.ifCond .ne 20, 3) := by decide +kernel
theorem dX6_kindOf_50 : decode cX6_kindOf 50 = .ok (.aload_n 0, 1) := by decide +kernel
theorem dX6_kindOf_51 : decode cX6_kindOf 51 = .ok (.getfield 19, 3) := by decide +kernel
theorem dX6_kindOf_54 : decode cX6_kindOf 54 = .ok (.iconst 4, 1) := by decide +kernel
theorem dX6_kindOf_55 : decode cX6_kindOf 55 = .ok (.iload_n 1, 1) := by decide +kernel
theorem dX6_kindOf_56 : decode cX6_kindOf 56 = .ok (.imul, 1) := by decide +kernel
theorem dX6_kindOf_57 : decode cX6_kindOf 57 = .ok (.iconst 3, 1) := by decide +kernel
theorem dX6_kindOf_58 : decode cX6_kindOf 58 = .ok (.iadd, 1) := by decide +kernel
theorem dX6_kindOf_59 : decode cX6_kindOf 59 = .ok (.iaload, 1) := by decide +kernel
theorem dX6_kindOf_60 : decode cX6_kindOf 60 = .ok (.ifCond .ne 7, 3) := by decide +kernel
theorem dX6_kindOf_63 : decode cX6_kindOf 63 = .ok (.iconst 2, 1) := by decide +kernel
theorem dX6_kindOf_64 : decode cX6_kindOf 64 = .ok (.goto 4, 3) := by decide +kernel
theorem dX6_kindOf_67 : decode cX6_kindOf 67 = .ok (.iconst 1, 1) := by decide +kernel
theorem dX6_kindOf_68 : decode cX6_kindOf 68 = .ok (.ireturn, 1) := by decide +kernel
theorem dX6_kind_0 : decode cX6_kind 0 = .ok (.aload_n 0, 1) := by decide +kernel
theorem dX6_kind_1 : decode cX6_kind 1 = .ok (.iconst 0, 1) := by decide +kernel
theorem dX6_kind_2 : decode cX6_kind 2 = .ok (.putfield 90, 3) := by decide +kernel
theorem dX6_kind_5 : decode cX6_kind 5 = .ok (.aload_n 0, 1) := by decide +kernel
theorem dX6_kind_6 : decode cX6_kind 6 = .ok (.iload_n 1, 1) := by decide +kernel
theorem dX6_kind_7 : decode cX6_kind 7 = .ok (.invokevirtual 108, 3) := by decide +kernel
theorem dX6_kind_10 : decode cX6_kind 10 = .ok (.ifCond .eq 11, 3) := by decide +kernel
theorem dX6_kind_13 : decode cX6_kind 13 = .ok (.aload_n 0, 1) := by decide +kernel
theorem dX6_kind_14 : decode cX6_kind 14 = .ok (.iload_n 1, 1) := by decide +kernel
theorem dX6_kind_15 : decode cX6_kind 15 = .ok (.invokevirtual 275, 3) := by decide +kernel
theorem dX6_kind_18 : decode cX6_kind 18 = .ok (.goto 5, 3) := by decide +kernel
theorem dX6_kind_21 : decode cX6_kind 21 = .ok (.ldc 106, 2) := by decide +kernel
theorem dX6_kind_23 : decode cX6_kind 23 = .ok (.ireturn, 1) := by decide +kernel
theorem dX6_as_0 : decode cX6_as 0 = .ok (.aload_n 0, 1) := by decide +kernel
theorem dX6_as_1 : decode cX6_as 1 = .ok (.iconst 0, 1) := by decide +kernel
theorem dX6_as_2 : decode cX6_as 2 = .ok (.putfield 90, 3) := by decide +kernel
theorem dX6_as_5 : decode cX6_as 5 = .ok (.aload_n 0, 1) := by decide +kernel
theorem dX6_as_6 : decode cX6_as 6 = .ok (.iload_n 1, 1) := by decide +kernel
theorem dX6_as_7 : decode cX6_as 7 = .ok (.invokevirtual 108, 3) := by decide +kernel
theorem dX6_as_10 : decode cX6_as 10 = .ok (.ifCond .eq 15, 3) := by decide +kernel
theorem dX6_as_13 : decode cX6_as 13 = .ok (.iload_n 2, 1) := by decide +kernel
theorem dX6_as_14 : decode cX6_as 14 = .ok (.i2l, 1) := by decide +kernel
theorem dX6_as_15 : decode cX6_as 15 = .ok (.lconst 0, 1) := by decide +kernel
theorem dX6_as_16 : decode cX6_as 16 = .ok (.ldc2_w 278, 3) := by decide +kernel
theorem dX6_as_19 : decode cX6_as 19 = .ok (.invokestatic 96, 3) := by decide +kernel
theorem dX6_as_22 : decode cX6_as 22 = .ok (.ifCond .ne 6, 3) := by decide +kernel
theorem dX6_as_25 : decode cX6_as 25 = .ok (.ldc 106, 2) := by decide +kernel
theorem dX6_as_27 : decode cX6_as 27 = .ok (.ireturn, 1) := by decide +kernel
theorem dX6_as_28 : decode cX6_as 28 = .ok (.aload_n 0, 1) := by decide +kernel
theorem dX6_as_29 : decode cX6_as 29 = .ok (.iload_n 1, 1) := by decide +kernel
theorem dX6_as_30 : decode cX6_as 30 = .ok (.invokevirtual 275, 3) := by decide +kernel
theorem dX6_as_33 : decode cX6_as 33 = .ok (.istore_n 3, 1) := by decide +kernel
theorem dX6_as_34 : decode cX6_as 34 = .ok (.iload_n 2, 1) := by decide +kernel
theorem dX6_as_35 : decode cX6_as 35 = .ok (.ifCond .eq 18, 3) := by decide +kernel
theorem dX6_as_38 : decode cX6_as 38 = .ok (.iload_n 3, 1) := by decide +kernel
theorem dX6_as_39 : decode cX6_as 39 = .ok (.iload_n 2, 1) := by decide +kernel
theorem dX6_as_40 : decode cX6_as 40 = .ok (.if_icmp .eq 13, 3) := by decide +kernel
theorem dX6_as_43 : decode cX6_as 43 = .ok (.iload_n 2, 1) := by decide +kernel
theorem dX6_as_44 : decode cX6_as 44 = .ok (.iconst 1, 1) := by decide +kernel
theorem dX6_as_45 : decode cX6_as 45 = .ok (.if_icmp .ne 17, 3) := by decide +kernel
theorem dX6_as_48 : decode cX6_as 48 = .ok (.iload_n 3, 1) := by decide +kernel
theorem dX6_as_49 : decode cX6_as 49 = .ok (.iconst 2, 1) := by decide +kernel
theorem dX6_as_50 : decode cX6_as 50 = .ok (.if_icmp .ne 12, 3) := by decide +kernel
theorem dX6_as_53 : decode cX6_as 53 = .ok (.aload_n 0, 1) := by decide +kernel
theorem dX6_as_54 : decode cX6_as 54 = .ok (.getfield 16, 3) := by decide +kernel
theorem dX6_as_57 : decode cX6_as 57 = .ok (.iload_n 1, 1) := by decide +kernel
theorem dX6_as_58 : decode cX6_as 58 = .ok (.iaload, 1) := by decide +kernel
theorem dX6_as_59 : decode cX6_as 59 = .ok (.goto 6, 3) := by decide +kernel
theorem dX6_as_62 : decode cX6_as 62 = .ok (.ldc_w 280, 3) := by decide +kernel
theorem dX6_as_65 : decode cX6_as 65 = .ok (.ireturn, 1) := by decide +kernel
theorem dX6_began_0 : decode cX6_began 0 = .ok (.aload_n 0, 1) := by decide +kernel
theorem dX6_began_1 : decode cX6_began 1 = .ok (.getfield 281, 3) := by decide +kernel
theorem dX6_began_4 : decode cX6_began 4 = .ok (.bipush 16, 2) := by decide +kernel
theorem dX6_began_6 : decode cX6_began 6 = .ok (.if_icmp .ge 23, 3) := by decide +kernel
theorem dX6_began_9 : decode cX6_began 9 = .ok (.aload_n 0, 1) := by decide +kernel
theorem dX6_began_10 : decode cX6_began 10 = .ok (.getfield 87, 3) := by decide +kernel
theorem dX6_began_13 : decode cX6_began 13 = .ok (.aload_n 0, 1) := by decide +kernel
theorem dX6_began_14 : decode cX6_began 14 = .ok (.getfield 281, 3) := by decide +kernel
theorem dX6_began_17 : decode cX6_began 17 = .ok (.iload_n 1, 1) := by decide +kernel
theorem dX6_began_18 : decode cX6_began 18 = .ok (.iastore, 1) := by decide +kernel
theorem dX6_began_19 : decode cX6_began 19 = .ok (.aload_n 0, 1) := by decide +kernel
theorem dX6_began_20 : decode cX6_began 20 = .ok (.dup, 1) := by decide +kernel
theorem dX6_began_21 : decode cX6_began 21 = .ok (.getfield 281, 3) := by decide +kernel
theorem dX6_began_24 : decode cX6_began 24 = .ok (.iconst 1, 1) := by decide +kernel
theorem dX6_began_25 : decode cX6_began 25 = .ok (.iadd, 1) := by decide +kernel
theorem dX6_began_26 : decode cX6_began 26 = .ok (.putfield 281, 3) := by decide +kernel
theorem dX6_began_29 : decode cX6_began 29 = .ok (.return_, 1) := by decide +kernel
theorem dX6_weight_0 : decode cX6_weight 0 = .ok (.aload_n 0, 1) := by decide +kernel
theorem dX6_weight_1 : decode cX6_weight 1 = .ok (.iload_n 1, 1) := by decide +kernel
theorem dX6_weight_2 : decode cX6_weight 2 = .ok (.invokevirtual 275, 3) := by decide +kernel
theorem dX6_weight_5 : decode cX6_weight 5 = .ok (.istore_n 2, 1) := by decide +kernel
theorem dX6_weight_6 : decode cX6_weight 6 = .ok (.iload_n 2, 1) := by decide +kernel
theorem dX6_weight_7 : decode cX6_weight 7 = .ok (.iconst 1, 1) := by decide +kernel
theorem dX6_weight_8 : decode cX6_weight 8 = .ok (.if_icmp .eq 8, 3) := by decide +kernel
theorem dX6_weight_11 : decode cX6_weight 11 = .ok (.iload_n 2, 1) := by decide +kernel
theorem dX6_weight_12 : decode cX6_weight 12 = .ok (.iconst 2, 1) := by decide +kernel
theorem dX6_weight_13 : decode cX6_weight 13 = .ok (.if_icmp .ne 7, 3) := by decide +kernel
theorem dX6_weight_16 : decode cX6_weight 16 = .ok (.iconst 1, 1) := by decide +kernel
theorem dX6_weight_17 : decode cX6_weight 17 = .ok (.goto 4, 3) := by decide +kernel
theorem dX6_weight_20 : decode cX6_weight 20 = .ok (.iconst 0, 1) := by decide +kernel
theorem dX6_weight_21 : decode cX6_weight 21 = .ok (.istore_n 3, 1) := by decide +kernel
theorem dX6_weight_22 : decode cX6_weight 22 = .ok (.iload_n 2, 1) := by decide +kernel
theorem dX6_weight_23 : decode cX6_weight 23 = .ok (.iconst 3, 1) := by decide +kernel
theorem dX6_weight_24 : decode cX6_weight 24 = .ok (.if_icmp .ne 9, 3) := by decide +kernel
theorem dX6_weight_27 : decode cX6_weight 27 = .ok (.aload_n 0, 1) := by decide +kernel
theorem dX6_weight_28 : decode cX6_weight 28 = .ok (.bipush 13, 2) := by decide +kernel
theorem dX6_weight_30 : decode cX6_weight 30 = .ok (.invokevirtual 284, 3) := by decide +kernel
theorem dX6_weight_33 : decode cX6_weight 33 = .ok (.iload_n 2, 1) := by decide +kernel
theorem dX6_weight_34 : decode cX6_weight 34 = .ok (.iconst 2, 1) := by decide +kernel
theorem dX6_weight_35 : decode cX6_weight 35 = .ok (.if_icmp .ne 9, 3) := by decide +kernel
theorem dX6_weight_38 : decode cX6_weight 38 = .ok (.aload_n 0, 1) := by decide +kernel
theorem dX6_weight_39 : decode cX6_weight 39 = .ok (.bipush 12, 2) := by decide +kernel
theorem dX6_weight_41 : decode cX6_weight 41 = .ok (.invokevirtual 284, 3) := by decide +kernel
theorem dX6_weight_44 : decode cX6_weight 44 = .ok (.iload_n 3, 1) := by decide +kernel
theorem dX6_weight_45 : decode cX6_weight 45 = .ok (.ifCond .eq 9, 3) := by decide +kernel
theorem dX6_weight_48 : decode cX6_weight 48 = .ok (.aload_n 0, 1) := by decide +kernel
theorem dX6_weight_49 : decode cX6_weight 49 = .ok (.bipush 11, 2) := by decide +kernel
theorem dX6_weight_51 : decode cX6_weight 51 = .ok (.invokevirtual 284, 3) := by decide +kernel
theorem dX6_weight_54 : decode cX6_weight 54 = .ok (.aload_n 0, 1) := by decide +kernel
theorem dX6_weight_55 : decode cX6_weight 55 = .ok (.bipush 10, 2) := by decide +kernel
theorem dX6_weight_57 : decode cX6_weight 57 = .ok (.invokevirtual 284, 3) := by decide +kernel
theorem dX6_weight_60 : decode cX6_weight 60 = .ok (.aload_n 0, 1) := by decide +kernel
theorem dX6_weight_61 : decode cX6_weight 61 = .ok (.getfield 22, 3) := by decide +kernel
theorem dX6_weight_64 : decode cX6_weight 64 = .ok (.iload_n 1, 1) := by decide +kernel
theorem dX6_weight_65 : decode cX6_weight 65 = .ok (.iaload, 1) := by decide +kernel
theorem dX6_weight_66 : decode cX6_weight 66 = .ok (.aload_n 0, 1) := by decide +kernel
theorem dX6_weight_67 : decode cX6_weight 67 = .ok (.getfield 25, 3) := by decide +kernel
theorem dX6_weight_70 : decode cX6_weight 70 = .ok (.iload_n 1, 1) := by decide +kernel
theorem dX6_weight_71 : decode cX6_weight 71 = .ok (.iaload, 1) := by decide +kernel
theorem dX6_weight_72 : decode cX6_weight 72 = .ok (.isub, 1) := by decide +kernel
theorem dX6_weight_73 : decode cX6_weight 73 = .ok (.istore 4, 2) := by decide +kernel
theorem dX6_weight_75 : decode cX6_weight 75 = .ok (.iload_n 2, 1) := by decide +kernel
theorem dX6_weight_76 : decode cX6_weight 76 = .ok (.iconst 3, 1) := by decide +kernel
theorem dX6_weight_77 : decode cX6_weight 77 = .ok (.if_icmp .ne 12, 3) := by decide +kernel
theorem dX6_weight_80 : decode cX6_weight 80 = .ok (.iload 4, 2) := by decide +kernel
theorem dX6_weight_82 : decode cX6_weight 82 = .ok (.sipush 5000, 3) := by decide +kernel
theorem dX6_weight_85 : decode cX6_weight 85 = .ok (.iadd, 1) := by decide +kernel
theorem dX6_weight_86 : decode cX6_weight 86 = .ok (.goto 38, 3) := by decide +kernel
theorem dX6_weight_89 : decode cX6_weight 89 = .ok (.iload 4, 2) := by decide +kernel
theorem dX6_weight_91 : decode cX6_weight 91 = .ok (.iload_n 3, 1) := by decide +kernel
theorem dX6_weight_92 : decode cX6_weight 92 = .ok (.ifCond .eq 12, 3) := by decide +kernel
theorem dX6_weight_95 : decode cX6_weight 95 = .ok (.aload_n 0, 1) := by decide +kernel
theorem dX6_weight_96 : decode cX6_weight 96 = .ok (.getfield 28, 3) := by decide +kernel
theorem dX6_weight_99 : decode cX6_weight 99 = .ok (.iload_n 1, 1) := by decide +kernel
theorem dX6_weight_100 : decode cX6_weight 100 = .ok (.iaload, 1) := by decide +kernel
theorem dX6_weight_101 : decode cX6_weight 101 = .ok (.goto 4, 3) := by decide +kernel
theorem dX6_weight_104 : decode cX6_weight 104 = .ok (.iconst 0, 1) := by decide +kernel
theorem dX6_weight_105 : decode cX6_weight 105 = .ok (.iadd, 1) := by decide +kernel
theorem dX6_weight_106 : decode cX6_weight 106 = .ok (.iload_n 2, 1) := by decide +kernel
theorem dX6_weight_107 : decode cX6_weight 107 = .ok (.iconst 2, 1) := by decide +kernel
theorem dX6_weight_108 : decode cX6_weight 108 = .ok (.if_icmp .ne 14, 3) := by decide +kernel
theorem dX6_weight_111 : decode cX6_weight 111 = .ok (.aload_n 0, 1) := by decide +kernel
theorem dX6_weight_112 : decode cX6_weight 112 = .ok (.getfield 19, 3) := by decide +kernel
theorem dX6_weight_115 : decode cX6_weight 115 = .ok (.iconst 4, 1) := by decide +kernel
theorem dX6_weight_116 : decode cX6_weight 116 = .ok (.iload_n 1, 1) := by decide +kernel
theorem dX6_weight_117 : decode cX6_weight 117 = .ok (.imul, 1) := by decide +kernel
theorem dX6_weight_118 : decode cX6_weight 118 = .ok (.iaload, 1) := by decide +kernel
theorem dX6_weight_119 : decode cX6_weight 119 = .ok (.goto 4, 3) := by decide +kernel
theorem dX6_weight_122 : decode cX6_weight 122 = .ok (.iconst 0, 1) := by decide +kernel
theorem dX6_weight_123 : decode cX6_weight 123 = .ok (.iadd, 1) := by decide +kernel
theorem dX6_weight_124 : decode cX6_weight 124 = .ok (.ireturn, 1) := by decide +kernel
theorem dX6_marked_0 : decode cX6_marked 0 = .ok (.aload_n 0, 1) := by decide +kernel
theorem dX6_marked_1 : decode cX6_marked 1 = .ok (.iload_n 1, 1) := by decide +kernel
theorem dX6_marked_2 : decode cX6_marked 2 = .ok (.invokevirtual 275, 3) := by decide +kernel
theorem dX6_marked_5 : decode cX6_marked 5 = .ok (.istore_n 2, 1) := by decide +kernel
theorem dX6_marked_6 : decode cX6_marked 6 = .ok (.iload_n 2, 1) := by decide +kernel
theorem dX6_marked_7 : decode cX6_marked 7 = .ok (.iconst 1, 1) := by decide +kernel
theorem dX6_marked_8 : decode cX6_marked 8 = .ok (.if_icmp .eq 8, 3) := by decide +kernel
theorem dX6_marked_11 : decode cX6_marked 11 = .ok (.iload_n 2, 1) := by decide +kernel
theorem dX6_marked_12 : decode cX6_marked 12 = .ok (.iconst 2, 1) := by decide +kernel
theorem dX6_marked_13 : decode cX6_marked 13 = .ok (.if_icmp .ne 7, 3) := by decide +kernel
theorem dX6_marked_16 : decode cX6_marked 16 = .ok (.iconst 1, 1) := by decide +kernel
theorem dX6_marked_17 : decode cX6_marked 17 = .ok (.goto 4, 3) := by decide +kernel
theorem dX6_marked_20 : decode cX6_marked 20 = .ok (.iconst 0, 1) := by decide +kernel
theorem dX6_marked_21 : decode cX6_marked 21 = .ok (.istore_n 3, 1) := by decide +kernel
theorem dX6_marked_22 : decode cX6_marked 22 = .ok (.iload_n 2, 1) := by decide +kernel
theorem dX6_marked_23 : decode cX6_marked 23 = .ok (.iconst 3, 1) := by decide +kernel
theorem dX6_marked_24 : decode cX6_marked 24 = .ok (.if_icmp .ne 9, 3) := by decide +kernel
theorem dX6_marked_27 : decode cX6_marked 27 = .ok (.aload_n 0, 1) := by decide +kernel
theorem dX6_marked_28 : decode cX6_marked 28 = .ok (.bipush 22, 2) := by decide +kernel
theorem dX6_marked_30 : decode cX6_marked 30 = .ok (.invokevirtual 284, 3) := by decide +kernel
theorem dX6_marked_33 : decode cX6_marked 33 = .ok (.iload_n 3, 1) := by decide +kernel
theorem dX6_marked_34 : decode cX6_marked 34 = .ok (.ifCond .eq 9, 3) := by decide +kernel
theorem dX6_marked_37 : decode cX6_marked 37 = .ok (.aload_n 0, 1) := by decide +kernel
theorem dX6_marked_38 : decode cX6_marked 38 = .ok (.bipush 21, 2) := by decide +kernel
theorem dX6_marked_40 : decode cX6_marked 40 = .ok (.invokevirtual 284, 3) := by decide +kernel
theorem dX6_marked_43 : decode cX6_marked 43 = .ok (.aload_n 0, 1) := by decide +kernel
theorem dX6_marked_44 : decode cX6_marked 44 = .ok (.bipush 20, 2) := by decide +kernel
theorem dX6_marked_46 : decode cX6_marked 46 = .ok (.invokevirtual 284, 3) := by decide +kernel
theorem dX6_marked_49 : decode cX6_marked 49 = .ok (.aload_n 0, 1) := by decide +kernel
theorem dX6_marked_50 : decode cX6_marked 50 = .ok (.getfield 16, 3) := by decide +kernel
theorem dX6_marked_53 : decode cX6_marked 53 = .ok (.iload_n 1, 1) := by decide +kernel
theorem dX6_marked_54 : decode cX6_marked 54 = .ok (.iaload, 1) := by decide +kernel
theorem dX6_marked_55 : decode cX6_marked 55 = .ok (.iload_n 3, 1) := by decide +kernel
theorem dX6_marked_56 : decode cX6_marked 56 = .ok (.ifCond .eq 11, 3) := by decide +kernel
theorem dX6_marked_59 : decode cX6_marked 59 = .ok (.aload_n 0, 1) := by decide +kernel
theorem dX6_marked_60 : decode cX6_marked 60 = .ok (.iload_n 1, 1) := by decide +kernel
theorem dX6_marked_61 : decode cX6_marked 61 = .ok (.invokevirtual 287, 3) := by decide +kernel
theorem dX6_marked_64 : decode cX6_marked 64 = .ok (.goto 18, 3) := by decide +kernel
theorem dX6_marked_67 : decode cX6_marked 67 = .ok (.iload_n 2, 1) := by decide +kernel
theorem dX6_marked_68 : decode cX6_marked 68 = .ok (.iconst 3, 1) := by decide +kernel
theorem dX6_marked_69 : decode cX6_marked 69 = .ok (.if_icmp .ne 12, 3) := by decide +kernel
theorem dX6_marked_72 : decode cX6_marked 72 = .ok (.aload_n 0, 1) := by decide +kernel
theorem dX6_marked_73 : decode cX6_marked 73 = .ok (.iload_n 1, 1) := by decide +kernel
theorem dX6_marked_74 : decode cX6_marked 74 = .ok (.invokevirtual 287, 3) := by decide +kernel
theorem dX6_marked_77 : decode cX6_marked 77 = .ok (.ineg, 1) := by decide +kernel
theorem dX6_marked_78 : decode cX6_marked 78 = .ok (.goto 4, 3) := by decide +kernel
theorem dX6_marked_81 : decode cX6_marked 81 = .ok (.iconst 0, 1) := by decide +kernel
theorem dX6_marked_82 : decode cX6_marked 82 = .ok (.iadd, 1) := by decide +kernel
theorem dX6_marked_83 : decode cX6_marked 83 = .ok (.ireturn, 1) := by decide +kernel
theorem dX6_ask_0 : decode cX6_ask 0 = .ok (.aload_n 0, 1) := by decide +kernel
theorem dX6_ask_1 : decode cX6_ask 1 = .ok (.iconst 0, 1) := by decide +kernel
theorem dX6_ask_2 : decode cX6_ask 2 = .ok (.putfield 90, 3) := by decide +kernel
theorem dX6_ask_5 : decode cX6_ask 5 = .ok (.aload_n 0, 1) := by decide +kernel
theorem dX6_ask_6 : decode cX6_ask 6 = .ok (.iload_n 1, 1) := by decide +kernel
theorem dX6_ask_7 : decode cX6_ask 7 = .ok (.invokevirtual 108, 3) := by decide +kernel
theorem dX6_ask_10 : decode cX6_ask 10 = .ok (.ifCond .eq 13, 3) := by decide +kernel
theorem dX6_ask_13 : decode cX6_ask 13 = .ok (.iload_n 2, 1) := by decide +kernel
theorem dX6_ask_14 : decode cX6_ask 14 = .ok (.i2l, 1) := by decide +kernel
theorem dX6_ask_15 : decode cX6_ask 15 = .ok (.lconst 0, 1) := by decide +kernel
theorem dX6_ask_16 : decode cX6_ask 16 = .ok (.lconst 1, 1) := by decide +kernel
theorem dX6_ask_17 : decode cX6_ask 17 = .ok (.invokestatic 96, 3) := by decide +kernel
theorem dX6_ask_20 : decode cX6_ask 20 = .ok (.ifCond .ne 6, 3) := by decide +kernel
theorem dX6_ask_23 : decode cX6_ask 23 = .ok (.ldc 106, 2) := by decide +kernel
theorem dX6_ask_25 : decode cX6_ask 25 = .ok (.ireturn, 1) := by decide +kernel
theorem dX6_ask_26 : decode cX6_ask 26 = .ok (.aload_n 0, 1) := by decide +kernel
theorem dX6_ask_27 : decode cX6_ask 27 = .ok (.iconst 0, 1) := by decide +kernel
theorem dX6_ask_28 : decode cX6_ask 28 = .ok (.putfield 281, 3) := by decide +kernel
theorem dX6_ask_31 : decode cX6_ask 31 = .ok (.iload_n 2, 1) := by decide +kernel
theorem dX6_ask_32 : decode cX6_ask 32 = .ok (.ifCond .ne 11, 3) := by decide +kernel
theorem dX6_ask_35 : decode cX6_ask 35 = .ok (.aload_n 0, 1) := by decide +kernel
theorem dX6_ask_36 : decode cX6_ask 36 = .ok (.iload_n 1, 1) := by decide +kernel
theorem dX6_ask_37 : decode cX6_ask 37 = .ok (.invokevirtual 287, 3) := by decide +kernel
theorem dX6_ask_40 : decode cX6_ask 40 = .ok (.goto 8, 3) := by decide +kernel
theorem dX6_ask_43 : decode cX6_ask 43 = .ok (.aload_n 0, 1) := by decide +kernel
theorem dX6_ask_44 : decode cX6_ask 44 = .ok (.iload_n 1, 1) := by decide +kernel
theorem dX6_ask_45 : decode cX6_ask 45 = .ok (.invokevirtual 290, 3) := by decide +kernel
theorem dX6_ask_48 : decode cX6_ask 48 = .ok (.ireturn, 1) := by decide +kernel
theorem dX6_trace_0 : decode cX6_trace 0 = .ok (.aload_n 0, 1) := by decide +kernel
theorem dX6_trace_1 : decode cX6_trace 1 = .ok (.iconst 0, 1) := by decide +kernel
theorem dX6_trace_2 : decode cX6_trace 2 = .ok (.putfield 90, 3) := by decide +kernel
theorem dX6_trace_5 : decode cX6_trace 5 = .ok (.iload_n 1, 1) := by decide +kernel
theorem dX6_trace_6 : decode cX6_trace 6 = .ok (.i2l, 1) := by decide +kernel
theorem dX6_trace_7 : decode cX6_trace 7 = .ok (.lconst 0, 1) := by decide +kernel
theorem dX6_trace_8 : decode cX6_trace 8 = .ok (.aload_n 0, 1) := by decide +kernel
theorem dX6_trace_9 : decode cX6_trace 9 = .ok (.getfield 281, 3) := by decide +kernel
theorem dX6_trace_12 : decode cX6_trace 12 = .ok (.iconst 1, 1) := by decide +kernel
theorem dX6_trace_13 : decode cX6_trace 13 = .ok (.isub, 1) := by decide +kernel
theorem dX6_trace_14 : decode cX6_trace 14 = .ok (.i2l, 1) := by decide +kernel
theorem dX6_trace_15 : decode cX6_trace 15 = .ok (.invokestatic 96, 3) := by decide +kernel
theorem dX6_trace_18 : decode cX6_trace 18 = .ok (.ifCond .eq 12, 3) := by decide +kernel
theorem dX6_trace_21 : decode cX6_trace 21 = .ok (.aload_n 0, 1) := by decide +kernel
theorem dX6_trace_22 : decode cX6_trace 22 = .ok (.getfield 87, 3) := by decide +kernel
theorem dX6_trace_25 : decode cX6_trace 25 = .ok (.iload_n 1, 1) := by decide +kernel
theorem dX6_trace_26 : decode cX6_trace 26 = .ok (.iaload, 1) := by decide +kernel
theorem dX6_trace_27 : decode cX6_trace 27 = .ok (.goto 5, 3) := by decide +kernel
theorem dX6_trace_30 : decode cX6_trace 30 = .ok (.ldc 145, 2) := by decide +kernel
theorem dX6_trace_32 : decode cX6_trace 32 = .ok (.ireturn, 1) := by decide +kernel
theorem dX6_count_0 : decode cX6_count 0 = .ok (.aload_n 0, 1) := by decide +kernel
theorem dX6_count_1 : decode cX6_count 1 = .ok (.iconst 0, 1) := by decide +kernel
theorem dX6_count_2 : decode cX6_count 2 = .ok (.putfield 90, 3) := by decide +kernel
theorem dX6_count_5 : decode cX6_count 5 = .ok (.iload_n 1, 1) := by decide +kernel
theorem dX6_count_6 : decode cX6_count 6 = .ok (.tableswitch 91 0 7 #[46, 52, 58, 64, 70, 75, 80, 85], 46) := by decide +kernel
theorem dX6_count_52 : decode cX6_count 52 = .ok (.aload_n 0, 1) := by decide +kernel
theorem dX6_count_53 : decode cX6_count 53 = .ok (.getfield 93, 3) := by decide +kernel
theorem dX6_count_56 : decode cX6_count 56 = .ok (.i2l, 1) := by decide +kernel
theorem dX6_count_57 : decode cX6_count 57 = .ok (.lreturn, 1) := by decide +kernel
theorem dX6_count_58 : decode cX6_count 58 = .ok (.aload_n 0, 1) := by decide +kernel
theorem dX6_count_59 : decode cX6_count 59 = .ok (.getfield 115, 3) := by decide +kernel
theorem dX6_count_62 : decode cX6_count 62 = .ok (.i2l, 1) := by decide +kernel
theorem dX6_count_63 : decode cX6_count 63 = .ok (.lreturn, 1) := by decide +kernel
theorem dX6_count_64 : decode cX6_count 64 = .ok (.aload_n 0, 1) := by decide +kernel
theorem dX6_count_65 : decode cX6_count 65 = .ok (.invokevirtual 130, 3) := by decide +kernel
theorem dX6_count_68 : decode cX6_count 68 = .ok (.i2l, 1) := by decide +kernel
theorem dX6_count_69 : decode cX6_count 69 = .ok (.lreturn, 1) := by decide +kernel
theorem dX6_count_70 : decode cX6_count 70 = .ok (.aload_n 0, 1) := by decide +kernel
theorem dX6_count_71 : decode cX6_count 71 = .ok (.getfield 134, 3) := by decide +kernel
theorem dX6_count_74 : decode cX6_count 74 = .ok (.i2l, 1) := by decide +kernel
theorem dX6_count_75 : decode cX6_count 75 = .ok (.lreturn, 1) := by decide +kernel
theorem dX6_count_76 : decode cX6_count 76 = .ok (.aload_n 0, 1) := by decide +kernel
theorem dX6_count_77 : decode cX6_count 77 = .ok (.getfield 139, 3) := by decide +kernel
theorem dX6_count_80 : decode cX6_count 80 = .ok (.lreturn, 1) := by decide +kernel
theorem dX6_count_81 : decode cX6_count 81 = .ok (.aload_n 0, 1) := by decide +kernel
theorem dX6_count_82 : decode cX6_count 82 = .ok (.getfield 187, 3) := by decide +kernel
theorem dX6_count_85 : decode cX6_count 85 = .ok (.lreturn, 1) := by decide +kernel
theorem dX6_count_86 : decode cX6_count 86 = .ok (.aload_n 0, 1) := by decide +kernel
theorem dX6_count_87 : decode cX6_count 87 = .ok (.getfield 190, 3) := by decide +kernel
theorem dX6_count_90 : decode cX6_count 90 = .ok (.lreturn, 1) := by decide +kernel
theorem dX6_count_91 : decode cX6_count 91 = .ok (.aload_n 0, 1) := by decide +kernel
theorem dX6_count_92 : decode cX6_count 92 = .ok (.getfield 201, 3) := by decide +kernel
theorem dX6_count_95 : decode cX6_count 95 = .ok (.i2l, 1) := by decide +kernel
theorem dX6_count_96 : decode cX6_count 96 = .ok (.lreturn, 1) := by decide +kernel
theorem dX6_count_97 : decode cX6_count 97 = .ok (.ldc2_w 293, 3) := by decide +kernel
theorem dX6_count_100 : decode cX6_count 100 = .ok (.lreturn, 1) := by decide +kernel
