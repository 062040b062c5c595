theorem dX6_in_0 : decode cX6_in 0 = .ok (.lload_n 0, 1) := by decide +kernel
theorem dX6_in_1 : decode cX6_in 1 = .ok (.lload_n 2, 1) := by decide +kernel
theorem dX6_in_2 : decode cX6_in 2 = .ok (.lcmp, 1) := by decide +kernel
theorem dX6_in_3 : decode cX6_in 3 = .ok (.ifCond .lt 14, 3) := by decide +kernel
theorem dX6_in_6 : decode cX6_in 6 = .ok (.lload_n 0, 1) := by decide +kernel
theorem dX6_in_7 : decode cX6_in 7 = .ok (.lload 4, 2) := by decide +kernel
theorem dX6_in_9 : decode cX6_in 9 = .ok (.lcmp, 1) := by decide +kernel
theorem dX6_in_10 : decode cX6_in 10 = .ok (.ifCond .gt 7, 3) := by decide +kernel
theorem dX6_in_13 : decode cX6_in 13 = .ok (.iconst 1, 1) := by decide +kernel
theorem dX6_in_14 : decode cX6_in 14 = .ok (.goto 4, 3) := by decide +kernel
theorem dX6_in_17 : decode cX6_in 17 = .ok (.iconst 0, 1) := by decide +kernel
theorem dX6_in_18 : decode cX6_in 18 = .ok (.ireturn, 1) := by decide +kernel
theorem dX6_init_0 : decode cX6_init 0 = .ok (.aload_n 0, 1) := by decide +kernel
theorem dX6_init_1 : decode cX6_init 1 = .ok (.invokespecial 1, 3) := by decide +kernel
theorem dX6_init_4 : decode cX6_init 4 = .ok (.aload_n 0, 1) := by decide +kernel
theorem dX6_init_5 : decode cX6_init 5 = .ok (.bipush 24, 2) := by decide +kernel
theorem dX6_init_7 : decode cX6_init 7 = .ok (.newarray .int, 2) := by decide +kernel
theorem dX6_init_9 : decode cX6_init 9 = .ok (.putfield 7, 3) := by decide +kernel
theorem dX6_init_12 : decode cX6_init 12 = .ok (.aload_n 0, 1) := by decide +kernel
theorem dX6_init_13 : decode cX6_init 13 = .ok (.bipush 90, 2) := by decide +kernel
theorem dX6_init_15 : decode cX6_init 15 = .ok (.newarray .long, 2) := by decide +kernel
theorem dX6_init_17 : decode cX6_init 17 = .ok (.putfield 13, 3) := by decide +kernel
theorem dX6_init_20 : decode cX6_init 20 = .ok (.aload_n 0, 1) := by decide +kernel
theorem dX6_init_21 : decode cX6_init 21 = .ok (.bipush 10, 2) := by decide +kernel
theorem dX6_init_23 : decode cX6_init 23 = .ok (.newarray .long, 2) := by decide +kernel
theorem dX6_init_25 : decode cX6_init 25 = .ok (.putfield 17, 3) := by decide +kernel
theorem dX6_init_28 : decode cX6_init 28 = .ok (.aload_n 0, 1) := by decide +kernel
theorem dX6_init_29 : decode cX6_init 29 = .ok (.iconst 4, 1) := by decide +kernel
theorem dX6_init_30 : decode cX6_init 30 = .ok (.newarray .int, 2) := by decide +kernel
theorem dX6_init_32 : decode cX6_init 32 = .ok (.putfield 20, 3) := by decide +kernel
theorem dX6_init_35 : decode cX6_init 35 = .ok (.aload_n 0, 1) := by decide +kernel
theorem dX6_init_36 : decode cX6_init 36 = .ok (.iconst 4, 1) := by decide +kernel
theorem dX6_init_37 : decode cX6_init 37 = .ok (.newarray .int, 2) := by decide +kernel
theorem dX6_init_39 : decode cX6_init 39 = .ok (.putfield 23, 3) := by decide +kernel
theorem dX6_init_42 : decode cX6_init 42 = .ok (.aload_n 0, 1) := by decide +kernel
theorem dX6_init_43 : decode cX6_init 43 = .ok (.bipush 96, 2) := by decide +kernel
theorem dX6_init_45 : decode cX6_init 45 = .ok (.newarray .int, 2) := by decide +kernel
theorem dX6_init_47 : decode cX6_init 47 = .ok (.putfield 26, 3) := by decide +kernel
theorem dX6_init_50 : decode cX6_init 50 = .ok (.aload_n 0, 1) := by decide +kernel
theorem dX6_init_51 : decode cX6_init 51 = .ok (.iconst 3, 1) := by decide +kernel
theorem dX6_init_52 : decode cX6_init 52 = .ok (.newarray .int, 2) := by decide +kernel
theorem dX6_init_54 : decode cX6_init 54 = .ok (.putfield 29, 3) := by decide +kernel
theorem dX6_init_57 : decode cX6_init 57 = .ok (.aload_n 0, 1) := by decide +kernel
theorem dX6_init_58 : decode cX6_init 58 = .ok (.bipush 72, 2) := by decide +kernel
theorem dX6_init_60 : decode cX6_init 60 = .ok (.newarray .int, 2) := by decide +kernel
theorem dX6_init_62 : decode cX6_init 62 = .ok (.putfield 32, 3) := by decide +kernel
theorem dX6_init_65 : decode cX6_init 65 = .ok (.aload_n 0, 1) := by decide +kernel
theorem dX6_init_66 : decode cX6_init 66 = .ok (.bipush 27, 2) := by decide +kernel
theorem dX6_init_68 : decode cX6_init 68 = .ok (.newarray .long, 2) := by decide +kernel
theorem dX6_init_70 : decode cX6_init 70 = .ok (.putfield 35, 3) := by decide +kernel
theorem dX6_init_73 : decode cX6_init 73 = .ok (.aload_n 0, 1) := by decide +kernel
theorem dX6_init_74 : decode cX6_init 74 = .ok (.bipush 12, 2) := by decide +kernel
theorem dX6_init_76 : decode cX6_init 76 = .ok (.newarray .long, 2) := by decide +kernel
theorem dX6_init_78 : decode cX6_init 78 = .ok (.putfield 38, 3) := by decide +kernel
theorem dX6_init_81 : decode cX6_init 81 = .ok (.aload_n 0, 1) := by decide +kernel
theorem dX6_init_82 : decode cX6_init 82 = .ok (.bipush 9, 2) := by decide +kernel
theorem dX6_init_84 : decode cX6_init 84 = .ok (.newarray .long, 2) := by decide +kernel
theorem dX6_init_86 : decode cX6_init 86 = .ok (.putfield 41, 3) := by decide +kernel
theorem dX6_init_89 : decode cX6_init 89 = .ok (.aload_n 0, 1) := by decide +kernel
theorem dX6_init_90 : decode cX6_init 90 = .ok (.iconst 4, 1) := by decide +kernel
theorem dX6_init_91 : decode cX6_init 91 = .ok (.newarray .int, 2) := by decide +kernel
theorem dX6_init_93 : decode cX6_init 93 = .ok (.putfield 44, 3) := by decide +kernel
theorem dX6_init_96 : decode cX6_init 96 = .ok (.aload_n 0, 1) := by decide +kernel
theorem dX6_init_97 : decode cX6_init 97 = .ok (.iconst 4, 1) := by decide +kernel
theorem dX6_init_98 : decode cX6_init 98 = .ok (.newarray .boolean, 2) := by decide +kernel
theorem dX6_init_100 : decode cX6_init 100 = .ok (.putfield 47, 3) := by decide +kernel
theorem dX6_init_103 : decode cX6_init 103 = .ok (.aload_n 0, 1) := by decide +kernel
theorem dX6_init_104 : decode cX6_init 104 = .ok (.iconst 4, 1) := by decide +kernel
theorem dX6_init_105 : decode cX6_init 105 = .ok (.newarray .boolean, 2) := by decide +kernel
theorem dX6_init_107 : decode cX6_init 107 = .ok (.putfield 51, 3) := by decide +kernel
theorem dX6_init_110 : decode cX6_init 110 = .ok (.aload_n 0, 1) := by decide +kernel
theorem dX6_init_111 : decode cX6_init 111 = .ok (.iconst 4, 1) := by decide +kernel
theorem dX6_init_112 : decode cX6_init 112 = .ok (.newarray .int, 2) := by decide +kernel
theorem dX6_init_114 : decode cX6_init 114 = .ok (.putfield 54, 3) := by decide +kernel
theorem dX6_init_117 : decode cX6_init 117 = .ok (.aload_n 0, 1) := by decide +kernel
theorem dX6_init_118 : decode cX6_init 118 = .ok (.sipush 1200, 3) := by decide +kernel
theorem dX6_init_121 : decode cX6_init 121 = .ok (.newarray .long, 2) := by decide +kernel
theorem dX6_init_123 : decode cX6_init 123 = .ok (.putfield 57, 3) := by decide +kernel
theorem dX6_init_126 : decode cX6_init 126 = .ok (.aload_n 0, 1) := by decide +kernel
theorem dX6_init_127 : decode cX6_init 127 = .ok (.iconst 3, 1) := by decide +kernel
theorem dX6_init_128 : decode cX6_init 128 = .ok (.newarray .int, 2) := by decide +kernel
theorem dX6_init_130 : decode cX6_init 130 = .ok (.putfield 60, 3) := by decide +kernel
theorem dX6_init_133 : decode cX6_init 133 = .ok (.aload_n 0, 1) := by decide +kernel
theorem dX6_init_134 : decode cX6_init 134 = .ok (.iconst 3, 1) := by decide +kernel
theorem dX6_init_135 : decode cX6_init 135 = .ok (.newarray .int, 2) := by decide +kernel
theorem dX6_init_137 : decode cX6_init 137 = .ok (.putfield 63, 3) := by decide +kernel
theorem dX6_init_140 : decode cX6_init 140 = .ok (.aload_n 0, 1) := by decide +kernel
theorem dX6_init_141 : decode cX6_init 141 = .ok (.iconst 4, 1) := by decide +kernel
theorem dX6_init_142 : decode cX6_init 142 = .ok (.newarray .int, 2) := by decide +kernel
theorem dX6_init_144 : decode cX6_init 144 = .ok (.putfield 66, 3) := by decide +kernel
theorem dX6_init_147 : decode cX6_init 147 = .ok (.iconst 0, 1) := by decide +kernel
theorem dX6_init_148 : decode cX6_init 148 = .ok (.istore_n 1, 1) := by decide +kernel
theorem dX6_init_149 : decode cX6_init 149 = .ok (.iload_n 1, 1) := by decide +kernel
theorem dX6_init_150 : decode cX6_init 150 = .ok (.iconst 4, 1) := by decide +kernel
theorem dX6_init_151 : decode cX6_init 151 = .ok (.if_icmp .ge 16, 3) := by decide +kernel
theorem dX6_init_154 : decode cX6_init 154 = .ok (.aload_n 0, 1) := by decide +kernel
theorem dX6_init_155 : decode cX6_init 155 = .ok (.getfield 20, 3) := by decide +kernel
theorem dX6_init_158 : decode cX6_init 158 = .ok (.iload_n 1, 1) := by decide +kernel
theorem dX6_init_159 : decode cX6_init 159 = .ok (.iconst (-1), 1) := by decide +kernel
theorem dX6_init_160 : decode cX6_init 160 = .ok (.iastore, 1) := by decide +kernel
theorem dX6_init_161 : decode cX6_init 161 = .ok (.iinc 1 1, 3) := by decide +kernel
theorem dX6_init_164 : decode cX6_init 164 = .ok (.goto (-15), 3) := by decide +kernel
theorem dX6_init_167 : decode cX6_init 167 = .ok (.iconst 0, 1) := by decide +kernel
theorem dX6_init_168 : decode cX6_init 168 = .ok (.istore_n 1, 1) := by decide +kernel
theorem dX6_init_169 : decode cX6_init 169 = .ok (.iload_n 1, 1) := by decide +kernel
theorem dX6_init_170 : decode cX6_init 170 = .ok (.iconst 3, 1) := by decide +kernel
theorem dX6_init_171 : decode cX6_init 171 = .ok (.if_icmp .ge 16, 3) := by decide +kernel
theorem dX6_init_174 : decode cX6_init 174 = .ok (.aload_n 0, 1) := by decide +kernel
theorem dX6_init_175 : decode cX6_init 175 = .ok (.getfield 60, 3) := by decide +kernel
theorem dX6_init_178 : decode cX6_init 178 = .ok (.iload_n 1, 1) := by decide +kernel
theorem dX6_init_179 : decode cX6_init 179 = .ok (.iconst 1, 1) := by decide +kernel
theorem dX6_init_180 : decode cX6_init 180 = .ok (.iastore, 1) := by decide +kernel
theorem dX6_init_181 : decode cX6_init 181 = .ok (.iinc 1 1, 3) := by decide +kernel
theorem dX6_init_184 : decode cX6_init 184 = .ok (.goto (-15), 3) := by decide +kernel
theorem dX6_init_187 : decode cX6_init 187 = .ok (.return_, 1) := by decide +kernel
theorem dX6_wind_0 : decode cX6_wind 0 = .ok (.iload_n 1, 1) := by decide +kernel
theorem dX6_wind_1 : decode cX6_wind 1 = .ok (.i2l, 1) := by decide +kernel
theorem dX6_wind_2 : decode cX6_wind 2 = .ok (.lconst 0, 1) := by decide +kernel
theorem dX6_wind_3 : decode cX6_wind 3 = .ok (.ldc2_w 69, 3) := by decide +kernel
theorem dX6_wind_6 : decode cX6_wind 6 = .ok (.invokestatic 71, 3) := by decide +kernel
theorem dX6_wind_9 : decode cX6_wind 9 = .ok (.ifCond .eq 17, 3) := by decide +kernel
theorem dX6_wind_12 : decode cX6_wind 12 = .ok (.iload_n 2, 1) := by decide +kernel
theorem dX6_wind_13 : decode cX6_wind 13 = .ok (.i2l, 1) := by decide +kernel
theorem dX6_wind_14 : decode cX6_wind 14 = .ok (.ldc2_w 75, 3) := by decide +kernel
theorem dX6_wind_17 : decode cX6_wind 17 = .ok (.ldc2_w 77, 3) := by decide +kernel
theorem dX6_wind_20 : decode cX6_wind 20 = .ok (.invokestatic 71, 3) := by decide +kernel
theorem dX6_wind_23 : decode cX6_wind 23 = .ok (.ifCond .ne 7, 3) := by decide +kernel
theorem dX6_wind_26 : decode cX6_wind 26 = .ok (.sipush (-1001), 3) := by decide +kernel
theorem dX6_wind_29 : decode cX6_wind 29 = .ok (.ireturn, 1) := by decide +kernel
theorem dX6_wind_30 : decode cX6_wind 30 = .ok (.aload_n 0, 1) := by decide +kernel
theorem dX6_wind_31 : decode cX6_wind 31 = .ok (.getfield 7, 3) := by decide +kernel
theorem dX6_wind_34 : decode cX6_wind 34 = .ok (.iload_n 1, 1) := by decide +kernel
theorem dX6_wind_35 : decode cX6_wind 35 = .ok (.iaload, 1) := by decide +kernel
theorem dX6_wind_36 : decode cX6_wind 36 = .ok (.istore_n 3, 1) := by decide +kernel
theorem dX6_wind_37 : decode cX6_wind 37 = .ok (.aload_n 0, 1) := by decide +kernel
theorem dX6_wind_38 : decode cX6_wind 38 = .ok (.getfield 7, 3) := by decide +kernel
theorem dX6_wind_41 : decode cX6_wind 41 = .ok (.iload_n 1, 1) := by decide +kernel
theorem dX6_wind_42 : decode cX6_wind 42 = .ok (.iload_n 2, 1) := by decide +kernel
theorem dX6_wind_43 : decode cX6_wind 43 = .ok (.iastore, 1) := by decide +kernel
theorem dX6_wind_44 : decode cX6_wind 44 = .ok (.iload_n 3, 1) := by decide +kernel
theorem dX6_wind_45 : decode cX6_wind 45 = .ok (.ireturn, 1) := by decide +kernel
theorem dX6_boxAt_0 : decode cX6_boxAt 0 = .ok (.iload_n 0, 1) := by decide +kernel
theorem dX6_boxAt_1 : decode cX6_boxAt 1 = .ok (.i2l, 1) := by decide +kernel
theorem dX6_boxAt_2 : decode cX6_boxAt 2 = .ok (.lconst 0, 1) := by decide +kernel
theorem dX6_boxAt_3 : decode cX6_boxAt 3 = .ok (.ldc2_w 79, 3) := by decide +kernel
theorem dX6_boxAt_6 : decode cX6_boxAt 6 = .ok (.invokestatic 71, 3) := by decide +kernel
theorem dX6_boxAt_9 : decode cX6_boxAt 9 = .ok (.ifCond .eq 23, 3) := by decide +kernel
theorem dX6_boxAt_12 : decode cX6_boxAt 12 = .ok (.iload_n 1, 1) := by decide +kernel
theorem dX6_boxAt_13 : decode cX6_boxAt 13 = .ok (.i2l, 1) := by decide +kernel
theorem dX6_boxAt_14 : decode cX6_boxAt 14 = .ok (.lconst 0, 1) := by decide +kernel
theorem dX6_boxAt_15 : decode cX6_boxAt 15 = .ok (.ldc2_w 79, 3) := by decide +kernel
theorem dX6_boxAt_18 : decode cX6_boxAt 18 = .ok (.invokestatic 71, 3) := by decide +kernel
theorem dX6_boxAt_21 : decode cX6_boxAt 21 = .ok (.ifCond .eq 11, 3) := by decide +kernel
theorem dX6_boxAt_24 : decode cX6_boxAt 24 = .ok (.iconst 3, 1) := by decide +kernel
theorem dX6_boxAt_25 : decode cX6_boxAt 25 = .ok (.iload_n 1, 1) := by decide +kernel
theorem dX6_boxAt_26 : decode cX6_boxAt 26 = .ok (.imul, 1) := by decide +kernel
theorem dX6_boxAt_27 : decode cX6_boxAt 27 = .ok (.iload_n 0, 1) := by decide +kernel
theorem dX6_boxAt_28 : decode cX6_boxAt 28 = .ok (.iadd, 1) := by decide +kernel
theorem dX6_boxAt_29 : decode cX6_boxAt 29 = .ok (.goto 5, 3) := by decide +kernel
theorem dX6_boxAt_32 : decode cX6_boxAt 32 = .ok (.bipush 9, 2) := by decide +kernel
theorem dX6_boxAt_34 : decode cX6_boxAt 34 = .ok (.ireturn, 1) := by decide +kernel
theorem dX6_fromOf_0 : decode cX6_fromOf 0 = .ok (.iload_n 0, 1) := by decide +kernel
theorem dX6_fromOf_1 : decode cX6_fromOf 1 = .ok (.bipush 12, 2) := by decide +kernel
theorem dX6_fromOf_3 : decode cX6_fromOf 3 = .ok (.if_icmp .ge 17, 3) := by decide +kernel
theorem dX6_fromOf_6 : decode cX6_fromOf 6 = .ok (.iload_n 0, 1) := by decide +kernel
theorem dX6_fromOf_7 : decode cX6_fromOf 7 = .ok (.iconst 4, 1) := by decide +kernel
theorem dX6_fromOf_8 : decode cX6_fromOf 8 = .ok (.irem, 1) := by decide +kernel
theorem dX6_fromOf_9 : decode cX6_fromOf 9 = .ok (.iconst 1, 1) := by decide +kernel
theorem dX6_fromOf_10 : decode cX6_fromOf 10 = .ok (.isub, 1) := by decide +kernel
theorem dX6_fromOf_11 : decode cX6_fromOf 11 = .ok (.iload_n 0, 1) := by decide +kernel
theorem dX6_fromOf_12 : decode cX6_fromOf 12 = .ok (.iconst 4, 1) := by decide +kernel
theorem dX6_fromOf_13 : decode cX6_fromOf 13 = .ok (.idiv, 1) := by decide +kernel
theorem dX6_fromOf_14 : decode cX6_fromOf 14 = .ok (.invokestatic 81, 3) := by decide +kernel
theorem dX6_fromOf_17 : decode cX6_fromOf 17 = .ok (.goto 20, 3) := by decide +kernel
theorem dX6_fromOf_20 : decode cX6_fromOf 20 = .ok (.iload_n 0, 1) := by decide +kernel
theorem dX6_fromOf_21 : decode cX6_fromOf 21 = .ok (.bipush 12, 2) := by decide +kernel
theorem dX6_fromOf_23 : decode cX6_fromOf 23 = .ok (.isub, 1) := by decide +kernel
theorem dX6_fromOf_24 : decode cX6_fromOf 24 = .ok (.iconst 3, 1) := by decide +kernel
theorem dX6_fromOf_25 : decode cX6_fromOf 25 = .ok (.irem, 1) := by decide +kernel
theorem dX6_fromOf_26 : decode cX6_fromOf 26 = .ok (.iload_n 0, 1) := by decide +kernel
theorem dX6_fromOf_27 : decode cX6_fromOf 27 = .ok (.bipush 12, 2) := by decide +kernel
theorem dX6_fromOf_29 : decode cX6_fromOf 29 = .ok (.isub, 1) := by decide +kernel
theorem dX6_fromOf_30 : decode cX6_fromOf 30 = .ok (.iconst 3, 1) := by decide +kernel
theorem dX6_fromOf_31 : decode cX6_fromOf 31 = .ok (.idiv, 1) := by decide +kernel
theorem dX6_fromOf_32 : decode cX6_fromOf 32 = .ok (.iconst 1, 1) := by decide +kernel
theorem dX6_fromOf_33 : decode cX6_fromOf 33 = .ok (.isub, 1) := by decide +kernel
theorem dX6_fromOf_34 : decode cX6_fromOf 34 = .ok (.invokestatic 81, 3) := by decide +kernel
theorem dX6_fromOf_37 : decode cX6_fromOf 37 = .ok (.ireturn, 1) := by decide +kernel
theorem dX6_toOf_0 : decode cX6_toOf 0 = .ok (.iload_n 0, 1) := by decide +kernel
theorem dX6_toOf_1 : decode cX6_toOf 1 = .ok (.bipush 12, 2) := by decide +kernel
theorem dX6_toOf_3 : decode cX6_toOf 3 = .ok (.if_icmp .ge 15, 3) := by decide +kernel
theorem dX6_toOf_6 : decode cX6_toOf 6 = .ok (.iload_n 0, 1) := by decide +kernel
theorem dX6_toOf_7 : decode cX6_toOf 7 = .ok (.iconst 4, 1) := by decide +kernel
theorem dX6_toOf_8 : decode cX6_toOf 8 = .ok (.irem, 1) := by decide +kernel
theorem dX6_toOf_9 : decode cX6_toOf 9 = .ok (.iload_n 0, 1) := by decide +kernel
theorem dX6_toOf_10 : decode cX6_toOf 10 = .ok (.iconst 4, 1) := by decide +kernel
theorem dX6_toOf_11 : decode cX6_toOf 11 = .ok (.idiv, 1) := by decide +kernel
theorem dX6_toOf_12 : decode cX6_toOf 12 = .ok (.invokestatic 81, 3) := by decide +kernel
theorem dX6_toOf_15 : decode cX6_toOf 15 = .ok (.goto 18, 3) := by decide +kernel
theorem dX6_toOf_18 : decode cX6_toOf 18 = .ok (.iload_n 0, 1) := by decide +kernel
theorem dX6_toOf_19 : decode cX6_toOf 19 = .ok (.bipush 12, 2) := by decide +kernel
theorem dX6_toOf_21 : decode cX6_toOf 21 = .ok (.isub, 1) := by decide +kernel
theorem dX6_toOf_22 : decode cX6_toOf 22 = .ok (.iconst 3, 1) := by decide +kernel
theorem dX6_toOf_23 : decode cX6_toOf 23 = .ok (.irem, 1) := by decide +kernel
theorem dX6_toOf_24 : decode cX6_toOf 24 = .ok (.iload_n 0, 1) := by decide +kernel
theorem dX6_toOf_25 : decode cX6_toOf 25 = .ok (.bipush 12, 2) := by decide +kernel
theorem dX6_toOf_27 : decode cX6_toOf 27 = .ok (.isub, 1) := by decide +kernel
theorem dX6_toOf_28 : decode cX6_toOf 28 = .ok (.iconst 3, 1) := by decide +kernel
theorem dX6_toOf_29 : decode cX6_toOf 29 = .ok (.idiv, 1) := by decide +kernel
theorem dX6_toOf_30 : decode cX6_toOf 30 = .ok (.invokestatic 81, 3) := by decide +kernel
theorem dX6_toOf_33 : decode cX6_toOf 33 = .ok (.ireturn, 1) := by decide +kernel
theorem dX6_given_0 : decode cX6_given 0 = .ok (.iconst 0, 1) := by decide +kernel
theorem dX6_given_1 : decode cX6_given 1 = .ok (.istore_n 2, 1) := by decide +kernel
theorem dX6_given_2 : decode cX6_given 2 = .ok (.iconst 0, 1) := by decide +kernel
theorem dX6_given_3 : decode cX6_given 3 = .ok (.istore_n 3, 1) := by decide +kernel
theorem dX6_given_4 : decode cX6_given 4 = .ok (.iload_n 3, 1) := by decide +kernel
theorem dX6_given_5 : decode cX6_given 5 = .ok (.bipush 24, 2) := by decide +kernel
theorem dX6_given_7 : decode cX6_given 7 = .ok (.if_icmp .ge 48, 3) := by decide +kernel
theorem dX6_given_10 : decode cX6_given 10 = .ok (.iload_n 2, 1) := by decide +kernel
theorem dX6_given_11 : decode cX6_given 11 = .ok (.iload_n 3, 1) := by decide +kernel
theorem dX6_given_12 : decode cX6_given 12 = .ok (.invokestatic 85, 3) := by decide +kernel
theorem dX6_given_15 : decode cX6_given 15 = .ok (.iload_n 1, 1) := by decide +kernel
theorem dX6_given_16 : decode cX6_given 16 = .ok (.if_icmp .ne 12, 3) := by decide +kernel
theorem dX6_given_19 : decode cX6_given 19 = .ok (.aload_n 0, 1) := by decide +kernel
theorem dX6_given_20 : decode cX6_given 20 = .ok (.getfield 7, 3) := by decide +kernel
theorem dX6_given_23 : decode cX6_given 23 = .ok (.iload_n 3, 1) := by decide +kernel
theorem dX6_given_24 : decode cX6_given 24 = .ok (.iaload, 1) := by decide +kernel
theorem dX6_given_25 : decode cX6_given 25 = .ok (.goto 22, 3) := by decide +kernel
theorem dX6_given_28 : decode cX6_given 28 = .ok (.iload_n 3, 1) := by decide +kernel
theorem dX6_given_29 : decode cX6_given 29 = .ok (.invokestatic 89, 3) := by decide +kernel
theorem dX6_given_32 : decode cX6_given 32 = .ok (.iload_n 1, 1) := by decide +kernel
theorem dX6_given_33 : decode cX6_given 33 = .ok (.if_icmp .ne 13, 3) := by decide +kernel
theorem dX6_given_36 : decode cX6_given 36 = .ok (.aload_n 0, 1) := by decide +kernel
theorem dX6_given_37 : decode cX6_given 37 = .ok (.getfield 7, 3) := by decide +kernel
theorem dX6_given_40 : decode cX6_given 40 = .ok (.iload_n 3, 1) := by decide +kernel
theorem dX6_given_41 : decode cX6_given 41 = .ok (.iaload, 1) := by decide +kernel
theorem dX6_given_42 : decode cX6_given 42 = .ok (.ineg, 1) := by decide +kernel
theorem dX6_given_43 : decode cX6_given 43 = .ok (.goto 4, 3) := by decide +kernel
theorem dX6_given_46 : decode cX6_given 46 = .ok (.iconst 0, 1) := by decide +kernel
theorem dX6_given_47 : decode cX6_given 47 = .ok (.iadd, 1) := by decide +kernel
theorem dX6_given_48 : decode cX6_given 48 = .ok (.istore_n 2, 1) := by decide +kernel
theorem dX6_given_49 : decode cX6_given 49 = .ok (.iinc 3 1, 3) := by decide +kernel
theorem dX6_given_52 : decode cX6_given 52 = .ok (.goto (-48), 3) := by decide +kernel
theorem dX6_given_55 : decode cX6_given 55 = .ok (.iload_n 2, 1) := by decide +kernel
theorem dX6_given_56 : decode cX6_given 56 = .ok (.ireturn, 1) := by decide +kernel
theorem dX6_gives_0 : decode cX6_gives 0 = .ok (.iload_n 1, 1) := by decide +kernel
theorem dX6_gives_1 : decode cX6_gives 1 = .ok (.i2l, 1) := by decide +kernel
theorem dX6_gives_2 : decode cX6_gives 2 = .ok (.lconst 0, 1) := by decide +kernel
theorem dX6_gives_3 : decode cX6_gives 3 = .ok (.ldc2_w 92, 3) := by decide +kernel
theorem dX6_gives_6 : decode cX6_gives 6 = .ok (.invokestatic 71, 3) := by decide +kernel
theorem dX6_gives_9 : decode cX6_gives 9 = .ok (.ifCond .eq 11, 3) := by decide +kernel
theorem dX6_gives_12 : decode cX6_gives 12 = .ok (.aload_n 0, 1) := by decide +kernel
theorem dX6_gives_13 : decode cX6_gives 13 = .ok (.iload_n 1, 1) := by decide +kernel
theorem dX6_gives_14 : decode cX6_gives 14 = .ok (.invokevirtual 94, 3) := by decide +kernel
theorem dX6_gives_17 : decode cX6_gives 17 = .ok (.goto 6, 3) := by decide +kernel
theorem dX6_gives_20 : decode cX6_gives 20 = .ok (.sipush (-1001), 3) := by decide +kernel
theorem dX6_gives_23 : decode cX6_gives 23 = .ok (.ireturn, 1) := by decide +kernel
theorem dX6_findHeights_0 : decode cX6_findHeights 0 = .ok (.iconst 0, 1) := by decide +kernel
theorem dX6_findHeights_1 : decode cX6_findHeights 1 = .ok (.istore_n 1, 1) := by decide +kernel
theorem dX6_findHeights_2 : decode cX6_findHeights 2 = .ok (.iload_n 1, 1) := by decide +kernel
theorem dX6_findHeights_3 : decode cX6_findHeights 3 = .ok (.bipush 90, 2) := by decide +kernel
theorem dX6_findHeights_5 : decode cX6_findHeights 5 = .ok (.if_icmp .ge 16, 3) := by decide +kernel
theorem dX6_findHeights_8 : decode cX6_findHeights 8 = .ok (.aload_n 0, 1) := by decide +kernel
theorem dX6_findHeights_9 : decode cX6_findHeights 9 = .ok (.getfield 13, 3) := by decide +kernel
theorem dX6_findHeights_12 : decode cX6_findHeights 12 = .ok (.iload_n 1, 1) := by decide +kernel
theorem dX6_findHeights_13 : decode cX6_findHeights 13 = .ok (.lconst 0, 1) := by decide +kernel
theorem dX6_findHeights_14 : decode cX6_findHeights 14 = .ok (.lastore, 1) := by decide +kernel
theorem dX6_findHeights_15 : decode cX6_findHeights 15 = .ok (.iinc 1 1, 3) := by decide +kernel
theorem dX6_findHeights_18 : decode cX6_findHeights 18 = .ok (.goto (-16), 3) := by decide +kernel
theorem dX6_findHeights_21 : decode cX6_findHeights 21 = .ok (.iconst 0, 1) := by decide +kernel
theorem dX6_findHeights_22 : decode cX6_findHeights 22 = .ok (.istore_n 1, 1) := by decide +kernel
theorem dX6_findHeights_23 : decode cX6_findHeights 23 = .ok (.iload_n 1, 1) := by decide +kernel
theorem dX6_findHeights_24 : decode cX6_findHeights 24 = .ok (.bipush 9, 2) := by decide +kernel
theorem dX6_findHeights_26 : decode cX6_findHeights 26 = .ok (.if_icmp .ge 40, 3) := by decide +kernel
theorem dX6_findHeights_29 : decode cX6_findHeights 29 = .ok (.aload_n 0, 1) := by decide +kernel
theorem dX6_findHeights_30 : decode cX6_findHeights 30 = .ok (.getfield 13, 3) := by decide +kernel
theorem dX6_findHeights_33 : decode cX6_findHeights 33 = .ok (.bipush 11, 2) := by decide +kernel
theorem dX6_findHeights_35 : decode cX6_findHeights 35 = .ok (.iload_n 1, 1) := by decide +kernel
theorem dX6_findHeights_36 : decode cX6_findHeights 36 = .ok (.imul, 1) := by decide +kernel
theorem dX6_findHeights_37 : decode cX6_findHeights 37 = .ok (.ldc2_w 97, 3) := by decide +kernel
theorem dX6_findHeights_40 : decode cX6_findHeights 40 = .ok (.lastore, 1) := by decide +kernel
theorem dX6_findHeights_41 : decode cX6_findHeights 41 = .ok (.aload_n 0, 1) := by decide +kernel
theorem dX6_findHeights_42 : decode cX6_findHeights 42 = .ok (.getfield 13, 3) := by decide +kernel
theorem dX6_findHeights_45 : decode cX6_findHeights 45 = .ok (.bipush 10, 2) := by decide +kernel
theorem dX6_findHeights_47 : decode cX6_findHeights 47 = .ok (.iload_n 1, 1) := by decide +kernel
theorem dX6_findHeights_48 : decode cX6_findHeights 48 = .ok (.imul, 1) := by decide +kernel
theorem dX6_findHeights_49 : decode cX6_findHeights 49 = .ok (.bipush 9, 2) := by decide +kernel
theorem dX6_findHeights_51 : decode cX6_findHeights 51 = .ok (.iadd, 1) := by decide +kernel
theorem dX6_findHeights_52 : decode cX6_findHeights 52 = .ok (.aload_n 0, 1) := by decide +kernel
theorem dX6_findHeights_53 : decode cX6_findHeights 53 = .ok (.iload_n 1, 1) := by decide +kernel
theorem dX6_findHeights_54 : decode cX6_findHeights 54 = .ok (.invokevirtual 94, 3) := by decide +kernel
theorem dX6_findHeights_57 : decode cX6_findHeights 57 = .ok (.ineg, 1) := by decide +kernel
theorem dX6_findHeights_58 : decode cX6_findHeights 58 = .ok (.i2l, 1) := by decide +kernel
theorem dX6_findHeights_59 : decode cX6_findHeights 59 = .ok (.lastore, 1) := by decide +kernel
theorem dX6_findHeights_60 : decode cX6_findHeights 60 = .ok (.iinc 1 1, 3) := by decide +kernel
theorem dX6_findHeights_63 : decode cX6_findHeights 63 = .ok (.goto (-40), 3) := by decide +kernel
theorem dX6_findHeights_66 : decode cX6_findHeights 66 = .ok (.iconst 0, 1) := by decide +kernel
theorem dX6_findHeights_67 : decode cX6_findHeights 67 = .ok (.istore_n 1, 1) := by decide +kernel
theorem dX6_findHeights_68 : decode cX6_findHeights 68 = .ok (.iload_n 1, 1) := by decide +kernel
theorem dX6_findHeights_69 : decode cX6_findHeights 69 = .ok (.bipush 24, 2) := by decide +kernel
theorem dX6_findHeights_71 : decode cX6_findHeights 71 = .ok (.if_icmp .ge 59, 3) := by decide +kernel
theorem dX6_findHeights_74 : decode cX6_findHeights 74 = .ok (.iload_n 1, 1) := by decide +kernel
theorem dX6_findHeights_75 : decode cX6_findHeights 75 = .ok (.invokestatic 85, 3) := by decide +kernel
theorem dX6_findHeights_78 : decode cX6_findHeights 78 = .ok (.istore_n 2, 1) := by decide +kernel
theorem dX6_findHeights_79 : decode cX6_findHeights 79 = .ok (.iload_n 1, 1) := by decide +kernel
theorem dX6_findHeights_80 : decode cX6_findHeights 80 = .ok (.invokestatic 89, 3) := by decide +kernel
theorem dX6_findHeights_83 : decode cX6_findHeights 83 = .ok (.istore_n 3, 1) := by decide +kernel
theorem dX6_findHeights_84 : decode cX6_findHeights 84 = .ok (.iload_n 2, 1) := by decide +kernel
theorem dX6_findHeights_85 : decode cX6_findHeights 85 = .ok (.bipush 9, 2) := by decide +kernel
theorem dX6_findHeights_87 : decode cX6_findHeights 87 = .ok (.if_icmp .ge 37, 3) := by decide +kernel
theorem dX6_findHeights_90 : decode cX6_findHeights 90 = .ok (.iload_n 3, 1) := by decide +kernel
theorem dX6_findHeights_91 : decode cX6_findHeights 91 = .ok (.bipush 9, 2) := by decide +kernel
theorem dX6_findHeights_93 : decode cX6_findHeights 93 = .ok (.if_icmp .ge 31, 3) := by decide +kernel
theorem dX6_findHeights_96 : decode cX6_findHeights 96 = .ok (.aload_n 0, 1) := by decide +kernel
theorem dX6_findHeights_97 : decode cX6_findHeights 97 = .ok (.getfield 13, 3) := by decide +kernel
theorem dX6_findHeights_100 : decode cX6_findHeights 100 = .ok (.bipush 10, 2) := by decide +kernel
theorem dX6_findHeights_102 : decode cX6_findHeights 102 = .ok (.iload_n 2, 1) := by decide +kernel
theorem dX6_findHeights_103 : decode cX6_findHeights 103 = .ok (.imul, 1) := by decide +kernel
theorem dX6_findHeights_104 : decode cX6_findHeights 104 = .ok (.iload_n 3, 1) := by decide +kernel
theorem dX6_findHeights_105 : decode cX6_findHeights 105 = .ok (.iadd, 1) := by decide +kernel
theorem dX6_findHeights_106 : decode cX6_findHeights 106 = .ok (.ldc2_w 99, 3) := by decide +kernel
theorem dX6_findHeights_109 : decode cX6_findHeights 109 = .ok (.lastore, 1) := by decide +kernel
theorem dX6_findHeights_110 : decode cX6_findHeights 110 = .ok (.aload_n 0, 1) := by decide +kernel
theorem dX6_findHeights_111 : decode cX6_findHeights 111 = .ok (.getfield 13, 3) := by decide +kernel
theorem dX6_findHeights_114 : decode cX6_findHeights 114 = .ok (.bipush 10, 2) := by decide +kernel
theorem dX6_findHeights_116 : decode cX6_findHeights 116 = .ok (.iload_n 3, 1) := by decide +kernel
theorem dX6_findHeights_117 : decode cX6_findHeights 117 = .ok (.imul, 1) := by decide +kernel
theorem dX6_findHeights_118 : decode cX6_findHeights 118 = .ok (.iload_n 2, 1) := by decide +kernel
theorem dX6_findHeights_119 : decode cX6_findHeights 119 = .ok (.iadd, 1) := by decide +kernel
theorem dX6_findHeights_120 : decode cX6_findHeights 120 = .ok (.ldc2_w 99, 3) := by decide +kernel
theorem dX6_findHeights_123 : decode cX6_findHeights 123 = .ok (.lastore, 1) := by decide +kernel
theorem dX6_findHeights_124 : decode cX6_findHeights 124 = .ok (.iinc 1 1, 3) := by decide +kernel
theorem dX6_findHeights_127 : decode cX6_findHeights 127 = .ok (.goto (-59), 3) := by decide +kernel
theorem dX6_findHeights_130 : decode cX6_findHeights 130 = .ok (.lconst 1, 1) := by decide +kernel
theorem dX6_findHeights_131 : decode cX6_findHeights 131 = .ok (.lstore_n 1, 1) := by decide +kernel
theorem dX6_findHeights_132 : decode cX6_findHeights 132 = .ok (.iconst 0, 1) := by decide +kernel
theorem dX6_findHeights_133 : decode cX6_findHeights 133 = .ok (.istore_n 3, 1) := by decide +kernel
theorem dX6_findHeights_134 : decode cX6_findHeights 134 = .ok (.iload_n 3, 1) := by decide +kernel
theorem dX6_findHeights_135 : decode cX6_findHeights 135 = .ok (.bipush 9, 2) := by decide +kernel
theorem dX6_findHeights_137 : decode cX6_findHeights 137 = .ok (.if_icmp .ge 122, 3) := by decide +kernel
theorem dX6_findHeights_140 : decode cX6_findHeights 140 = .ok (.aload_n 0, 1) := by decide +kernel
theorem dX6_findHeights_141 : decode cX6_findHeights 141 = .ok (.getfield 13, 3) := by decide +kernel
theorem dX6_findHeights_144 : decode cX6_findHeights 144 = .ok (.bipush 11, 2) := by decide +kernel
theorem dX6_findHeights_146 : decode cX6_findHeights 146 = .ok (.iload_n 3, 1) := by decide +kernel
theorem dX6_findHeights_147 : decode cX6_findHeights 147 = .ok (.imul, 1) := by decide +kernel
theorem dX6_findHeights_148 : decode cX6_findHeights 148 = .ok (.laload, 1) := by decide +kernel
theorem dX6_findHeights_149 : decode cX6_findHeights 149 = .ok (.lstore 4, 2) := by decide +kernel
theorem dX6_findHeights_151 : decode cX6_findHeights 151 = .ok (.iconst 0, 1) := by decide +kernel
theorem dX6_findHeights_152 : decode cX6_findHeights 152 = .ok (.istore 6, 2) := by decide +kernel
theorem dX6_findHeights_154 : decode cX6_findHeights 154 = .ok (.iload 6, 2) := by decide +kernel
theorem dX6_findHeights_156 : decode cX6_findHeights 156 = .ok (.bipush 9, 2) := by decide +kernel
theorem dX6_findHeights_158 : decode cX6_findHeights 158 = .ok (.if_icmp .ge 92, 3) := by decide +kernel
theorem dX6_findHeights_161 : decode cX6_findHeights 161 = .ok (.aload_n 0, 1) := by decide +kernel
theorem dX6_findHeights_162 : decode cX6_findHeights 162 = .ok (.getfield 13, 3) := by decide +kernel
theorem dX6_findHeights_165 : decode cX6_findHeights 165 = .ok (.bipush 10, 2) := by decide +kernel
theorem dX6_findHeights_167 : decode cX6_findHeights 167 = .ok (.iload 6, 2) := by decide +kernel
theorem dX6_findHeights_169 : decode cX6_findHeights 169 = .ok (.imul, 1) := by decide +kernel
theorem dX6_findHeights_170 : decode cX6_findHeights 170 = .ok (.iload_n 3, 1) := by decide +kernel
theorem dX6_findHeights_171 : decode cX6_findHeights 171 = .ok (.iadd, 1) := by decide +kernel
theorem dX6_findHeights_172 : decode cX6_findHeights 172 = .ok (.laload, 1) := by decide +kernel
theorem dX6_findHeights_173 : decode cX6_findHeights 173 = .ok (.lstore 7, 2) := by decide +kernel
theorem dX6_findHeights_175 : decode cX6_findHeights 175 = .ok (.iconst 0, 1) := by decide +kernel
theorem dX6_findHeights_176 : decode cX6_findHeights 176 = .ok (.istore 9, 2) := by decide +kernel
theorem dX6_findHeights_178 : decode cX6_findHeights 178 = .ok (.iload 9, 2) := by decide +kernel
theorem dX6_findHeights_180 : decode cX6_findHeights 180 = .ok (.bipush 10, 2) := by decide +kernel
theorem dX6_findHeights_182 : decode cX6_findHeights 182 = .ok (.if_icmp .ge 62, 3) := by decide +kernel
theorem dX6_findHeights_185 : decode cX6_findHeights 185 = .ok (.iload 6, 2) := by decide +kernel
theorem dX6_findHeights_187 : decode cX6_findHeights 187 = .ok (.iload_n 3, 1) := by decide +kernel
theorem dX6_findHeights_188 : decode cX6_findHeights 188 = .ok (.if_icmp .eq 56, 3) := by decide +kernel
theorem dX6_findHeights_191 : decode cX6_findHeights 191 = .ok (.aload_n 0, 1) := by decide +kernel
theorem dX6_findHeights_192 : decode cX6_findHeights 192 = .ok (.getfield 13, 3) := by decide +kernel
theorem dX6_findHeights_195 : decode cX6_findHeights 195 = .ok (.bipush 10, 2) := by decide +kernel
theorem dX6_findHeights_197 : decode cX6_findHeights 197 = .ok (.iload 6, 2) := by decide +kernel
theorem dX6_findHeights_199 : decode cX6_findHeights 199 = .ok (.imul, 1) := by decide +kernel
theorem dX6_findHeights_200 : decode cX6_findHeights 200 = .ok (.iload 9, 2) := by decide +kernel
theorem dX6_findHeights_202 : decode cX6_findHeights 202 = .ok (.iadd, 1) := by decide +kernel
theorem dX6_findHeights_203 : decode cX6_findHeights 203 = .ok (.lload 4, 2) := by decide +kernel
theorem dX6_findHeights_205 : decode cX6_findHeights 205 = .ok (.aload_n 0, 1) := by decide +kernel
theorem dX6_findHeights_206 : decode cX6_findHeights 206 = .ok (.getfield 13, 3) := by decide +kernel
theorem dX6_findHeights_209 : decode cX6_findHeights 209 = .ok (.bipush 10, 2) := by decide +kernel
theorem dX6_findHeights_211 : decode cX6_findHeights 211 = .ok (.iload 6, 2) := by decide +kernel
theorem dX6_findHeights_213 : decode cX6_findHeights 213 = .ok (.imul, 1) := by decide +kernel
theorem dX6_findHeights_214 : decode cX6_findHeights 214 = .ok (.iload 9, 2) := by decide +kernel
theorem dX6_findHeights_216 : decode cX6_findHeights 216 = .ok (.iadd, 1) := by decide +kernel
theorem dX6_findHeights_217 : decode cX6_findHeights 217 = .ok (.laload, 1) := by decide +kernel
theorem dX6_findHeights_218 : decode cX6_findHeights 218 = .ok (.lmul, 1) := by decide +kernel
theorem dX6_findHeights_219 : decode cX6_findHeights 219 = .ok (.lload 7, 2) := by decide +kernel
theorem dX6_findHeights_221 : decode cX6_findHeights 221 = .ok (.aload_n 0, 1) := by decide +kernel
theorem dX6_findHeights_222 : decode cX6_findHeights 222 = .ok (.getfield 13, 3) := by decide +kernel
theorem dX6_findHeights_225 : decode cX6_findHeights 225 = .ok (.bipush 10, 2) := by decide +kernel
theorem dX6_findHeights_227 : decode cX6_findHeights 227 = .ok (.iload_n 3, 1) := by decide +kernel
theorem dX6_findHeights_228 : decode cX6_findHeights 228 = .ok (.imul, 1) := by decide +kernel
theorem dX6_findHeights_229 : decode cX6_findHeights 229 = .ok (.iload 9, 2) := by decide +kernel
theorem dX6_findHeights_231 : decode cX6_findHeights 231 = .ok (.iadd, 1) := by decide +kernel
theorem dX6_findHeights_232 : decode cX6_findHeights 232 = .ok (.laload, 1) := by decide +kernel
theorem dX6_findHeights_233 : decode cX6_findHeights 233 = .ok (.lmul, 1) := by decide +kernel
theorem dX6_findHeights_234 : decode cX6_findHeights 234 = .ok (.lsub, 1) := by decide +kernel
theorem dX6_findHeights_235 : decode cX6_findHeights 235 = .ok (.lload_n 1, 1) := by decide +kernel
theorem dX6_findHeights_236 : decode cX6_findHeights 236 = .ok (.ldiv, 1) := by decide +kernel
theorem dX6_findHeights_237 : decode cX6_findHeights 237 = .ok (.lastore, 1) := by decide +kernel
theorem dX6_findHeights_238 : decode cX6_findHeights 238 = .ok (.iinc 9 1, 3) := by decide +kernel
theorem dX6_findHeights_241 : decode cX6_findHeights 241 = .ok (.goto (-63), 3) := by decide +kernel
theorem dX6_findHeights_244 : decode cX6_findHeights 244 = .ok (.iinc 6 1, 3) := by decide +kernel
theorem dX6_findHeights_247 : decode cX6_findHeights 247 = .ok (.goto (-93), 3) := by decide +kernel
theorem dX6_findHeights_250 : decode cX6_findHeights 250 = .ok (.lload 4, 2) := by decide +kernel
theorem dX6_findHeights_252 : decode cX6_findHeights 252 = .ok (.lstore_n 1, 1) := by decide +kernel
theorem dX6_findHeights_253 : decode cX6_findHeights 253 = .ok (.iinc 3 1, 3) := by decide +kernel
theorem dX6_findHeights_256 : decode cX6_findHeights 256 = .ok (.goto (-122), 3) := by decide +kernel
theorem dX6_findHeights_259 : decode cX6_findHeights 259 = .ok (.iconst 0, 1) := by decide +kernel
theorem dX6_findHeights_260 : decode cX6_findHeights 260 = .ok (.istore_n 3, 1) := by decide +kernel
theorem dX6_findHeights_261 : decode cX6_findHeights 261 = .ok (.iload_n 3, 1) := by decide +kernel
theorem dX6_findHeights_262 : decode cX6_findHeights 262 = .ok (.bipush 9, 2) := by decide +kernel
theorem dX6_findHeights_264 : decode cX6_findHeights 264 = .ok (.if_icmp .ge 27, 3) := by decide +kernel
theorem dX6_findHeights_267 : decode cX6_findHeights 267 = .ok (.aload_n 0, 1) := by decide +kernel
theorem dX6_findHeights_268 : decode cX6_findHeights 268 = .ok (.getfield 17, 3) := by decide +kernel
theorem dX6_findHeights_271 : decode cX6_findHeights 271 = .ok (.iload_n 3, 1) := by decide +kernel
theorem dX6_findHeights_272 : decode cX6_findHeights 272 = .ok (.aload_n 0, 1) := by decide +kernel
theorem dX6_findHeights_273 : decode cX6_findHeights 273 = .ok (.getfield 13, 3) := by decide +kernel
theorem dX6_findHeights_276 : decode cX6_findHeights 276 = .ok (.bipush 10, 2) := by decide +kernel
theorem dX6_findHeights_278 : decode cX6_findHeights 278 = .ok (.iload_n 3, 1) := by decide +kernel
theorem dX6_findHeights_279 : decode cX6_findHeights 279 = .ok (.imul, 1) := by decide +kernel
theorem dX6_findHeights_280 : decode cX6_findHeights 280 = .ok (.bipush 9, 2) := by decide +kernel
theorem dX6_findHeights_282 : decode cX6_findHeights 282 = .ok (.iadd, 1) := by decide +kernel
theorem dX6_findHeights_283 : decode cX6_findHeights 283 = .ok (.laload, 1) := by decide +kernel
theorem dX6_findHeights_284 : decode cX6_findHeights 284 = .ok (.lastore, 1) := by decide +kernel
theorem dX6_findHeights_285 : decode cX6_findHeights 285 = .ok (.iinc 3 1, 3) := by decide +kernel
theorem dX6_findHeights_288 : decode cX6_findHeights 288 = .ok (.goto (-27), 3) := by decide +kernel
theorem dX6_findHeights_291 : decode cX6_findHeights 291 = .ok (.return_, 1) := by decide +kernel
theorem dX6_stillAt_0 : decode cX6_stillAt 0 = .ok (.ldc2_w 101, 3) := by decide +kernel
theorem dX6_stillAt_3 : decode cX6_stillAt 3 = .ok (.aload_n 0, 1) := by decide +kernel
theorem dX6_stillAt_4 : decode cX6_stillAt 4 = .ok (.getfield 7, 3) := by decide +kernel
theorem dX6_stillAt_7 : decode cX6_stillAt 7 = .ok (.iload_n 1, 1) := by decide +kernel
theorem dX6_stillAt_8 : decode cX6_stillAt 8 = .ok (.iaload, 1) := by decide +kernel
theorem dX6_stillAt_9 : decode cX6_stillAt 9 = .ok (.i2l, 1) := by decide +kernel
theorem dX6_stillAt_10 : decode cX6_stillAt 10 = .ok (.lmul, 1) := by decide +kernel
theorem dX6_stillAt_11 : decode cX6_stillAt 11 = .ok (.aload_n 0, 1) := by decide +kernel
theorem dX6_stillAt_12 : decode cX6_stillAt 12 = .ok (.getfield 17, 3) := by decide +kernel
theorem dX6_stillAt_15 : decode cX6_stillAt 15 = .ok (.iload_n 1, 1) := by decide +kernel
theorem dX6_stillAt_16 : decode cX6_stillAt 16 = .ok (.invokestatic 85, 3) := by decide +kernel
theorem dX6_stillAt_19 : decode cX6_stillAt 19 = .ok (.laload, 1) := by decide +kernel
theorem dX6_stillAt_20 : decode cX6_stillAt 20 = .ok (.ladd, 1) := by decide +kernel
theorem dX6_stillAt_21 : decode cX6_stillAt 21 = .ok (.aload_n 0, 1) := by decide +kernel
theorem dX6_stillAt_22 : decode cX6_stillAt 22 = .ok (.getfield 17, 3) := by decide +kernel
theorem dX6_stillAt_25 : decode cX6_stillAt 25 = .ok (.iload_n 1, 1) := by decide +kernel
theorem dX6_stillAt_26 : decode cX6_stillAt 26 = .ok (.invokestatic 89, 3) := by decide +kernel
theorem dX6_stillAt_29 : decode cX6_stillAt 29 = .ok (.laload, 1) := by decide +kernel
theorem dX6_stillAt_30 : decode cX6_stillAt 30 = .ok (.lsub, 1) := by decide +kernel
theorem dX6_stillAt_31 : decode cX6_stillAt 31 = .ok (.lreturn, 1) := by decide +kernel
theorem dX6_still_0 : decode cX6_still 0 = .ok (.iload_n 1, 1) := by decide +kernel
theorem dX6_still_1 : decode cX6_still 1 = .ok (.i2l, 1) := by decide +kernel
theorem dX6_still_2 : decode cX6_still 2 = .ok (.lconst 0, 1) := by decide +kernel
theorem dX6_still_3 : decode cX6_still 3 = .ok (.ldc2_w 69, 3) := by decide +kernel
theorem dX6_still_6 : decode cX6_still 6 = .ok (.invokestatic 71, 3) := by decide +kernel
theorem dX6_still_9 : decode cX6_still 9 = .ok (.ifCond .ne 7, 3) := by decide +kernel
theorem dX6_still_12 : decode cX6_still 12 = .ok (.ldc2_w 103, 3) := by decide +kernel
theorem dX6_still_15 : decode cX6_still 15 = .ok (.lreturn, 1) := by decide +kernel
theorem dX6_still_16 : decode cX6_still 16 = .ok (.aload_n 0, 1) := by decide +kernel
theorem dX6_still_17 : decode cX6_still 17 = .ok (.invokevirtual 105, 3) := by decide +kernel
theorem dX6_still_20 : decode cX6_still 20 = .ok (.aload_n 0, 1) := by decide +kernel
theorem dX6_still_21 : decode cX6_still 21 = .ok (.iload_n 1, 1) := by decide +kernel
theorem dX6_still_22 : decode cX6_still 22 = .ok (.invokevirtual 108, 3) := by decide +kernel
theorem dX6_still_25 : decode cX6_still 25 = .ok (.lreturn, 1) := by decide +kernel
theorem dX6_change_0 : decode cX6_change 0 = .ok (.aload_n 0, 1) := by decide +kernel
theorem dX6_change_1 : decode cX6_change 1 = .ok (.invokevirtual 105, 3) := by decide +kernel
theorem dX6_change_4 : decode cX6_change 4 = .ok (.lconst 0, 1) := by decide +kernel
theorem dX6_change_5 : decode cX6_change 5 = .ok (.lstore_n 1, 1) := by decide +kernel
theorem dX6_change_6 : decode cX6_change 6 = .ok (.iconst 0, 1) := by decide +kernel
theorem dX6_change_7 : decode cX6_change 7 = .ok (.istore_n 3, 1) := by decide +kernel
theorem dX6_change_8 : decode cX6_change 8 = .ok (.iload_n 3, 1) := by decide +kernel
theorem dX6_change_9 : decode cX6_change 9 = .ok (.bipush 24, 2) := by decide +kernel
theorem dX6_change_11 : decode cX6_change 11 = .ok (.if_icmp .ge 38, 3) := by decide +kernel
theorem dX6_change_14 : decode cX6_change 14 = .ok (.aload_n 0, 1) := by decide +kernel
theorem dX6_change_15 : decode cX6_change 15 = .ok (.getfield 17, 3) := by decide +kernel
theorem dX6_change_18 : decode cX6_change 18 = .ok (.iload_n 3, 1) := by decide +kernel
theorem dX6_change_19 : decode cX6_change 19 = .ok (.invokestatic 85, 3) := by decide +kernel
theorem dX6_change_22 : decode cX6_change 22 = .ok (.laload, 1) := by decide +kernel
theorem dX6_change_23 : decode cX6_change 23 = .ok (.aload_n 0, 1) := by decide +kernel
theorem dX6_change_24 : decode cX6_change 24 = .ok (.getfield 17, 3) := by decide +kernel
theorem dX6_change_27 : decode cX6_change 27 = .ok (.iload_n 3, 1) := by decide +kernel
theorem dX6_change_28 : decode cX6_change 28 = .ok (.invokestatic 89, 3) := by decide +kernel
theorem dX6_change_31 : decode cX6_change 31 = .ok (.laload, 1) := by decide +kernel
theorem dX6_change_32 : decode cX6_change 32 = .ok (.lsub, 1) := by decide +kernel
theorem dX6_change_33 : decode cX6_change 33 = .ok (.lstore 4, 2) := by decide +kernel
theorem dX6_change_35 : decode cX6_change 35 = .ok (.lload_n 1, 1) := by decide +kernel
theorem dX6_change_36 : decode cX6_change 36 = .ok (.lload 4, 2) := by decide +kernel
theorem dX6_change_38 : decode cX6_change 38 = .ok (.lload 4, 2) := by decide +kernel
theorem dX6_change_40 : decode cX6_change 40 = .ok (.lmul, 1) := by decide +kernel
theorem dX6_change_41 : decode cX6_change 41 = .ok (.ladd, 1) := by decide +kernel
theorem dX6_change_42 : decode cX6_change 42 = .ok (.lstore_n 1, 1) := by decide +kernel
theorem dX6_change_43 : decode cX6_change 43 = .ok (.iinc 3 1, 3) := by decide +kernel
theorem dX6_change_46 : decode cX6_change 46 = .ok (.goto (-38), 3) := by decide +kernel
theorem dX6_change_49 : decode cX6_change 49 = .ok (.lload_n 1, 1) := by decide +kernel
theorem dX6_change_50 : decode cX6_change 50 = .ok (.lreturn, 1) := by decide +kernel
theorem dX6_isSheet_0 : decode cX6_isSheet 0 = .ok (.iload_n 0, 1) := by decide +kernel
theorem dX6_isSheet_1 : decode cX6_isSheet 1 = .ok (.i2l, 1) := by decide +kernel
theorem dX6_isSheet_2 : decode cX6_isSheet 2 = .ok (.lconst 0, 1) := by decide +kernel
theorem dX6_isSheet_3 : decode cX6_isSheet 3 = .ok (.ldc2_w 112, 3) := by decide +kernel
theorem dX6_isSheet_6 : decode cX6_isSheet 6 = .ok (.invokestatic 71, 3) := by decide +kernel
theorem dX6_isSheet_9 : decode cX6_isSheet 9 = .ok (.ifCond .eq 17, 3) := by decide +kernel
theorem dX6_isSheet_12 : decode cX6_isSheet 12 = .ok (.iload_n 1, 1) := by decide +kernel
theorem dX6_isSheet_13 : decode cX6_isSheet 13 = .ok (.i2l, 1) := by decide +kernel
theorem dX6_isSheet_14 : decode cX6_isSheet 14 = .ok (.lconst 0, 1) := by decide +kernel
theorem dX6_isSheet_15 : decode cX6_isSheet 15 = .ok (.lconst 1, 1) := by decide +kernel
theorem dX6_isSheet_16 : decode cX6_isSheet 16 = .ok (.invokestatic 71, 3) := by decide +kernel
theorem dX6_isSheet_19 : decode cX6_isSheet 19 = .ok (.ifCond .eq 7, 3) := by decide +kernel
theorem dX6_isSheet_22 : decode cX6_isSheet 22 = .ok (.iconst 1, 1) := by decide +kernel
theorem dX6_isSheet_23 : decode cX6_isSheet 23 = .ok (.goto 4, 3) := by decide +kernel
theorem dX6_isSheet_26 : decode cX6_isSheet 26 = .ok (.iconst 0, 1) := by decide +kernel
theorem dX6_isSheet_27 : decode cX6_isSheet 27 = .ok (.ireturn, 1) := by decide +kernel
theorem dX6_sheet_0 : decode cX6_sheet 0 = .ok (.iload_n 1, 1) := by decide +kernel
theorem dX6_sheet_1 : decode cX6_sheet 1 = .ok (.iload_n 2, 1) := by decide +kernel
theorem dX6_sheet_2 : decode cX6_sheet 2 = .ok (.invokestatic 114, 3) := by decide +kernel
theorem dX6_sheet_5 : decode cX6_sheet 5 = .ok (.ifCond .eq 9, 3) := by decide +kernel
theorem dX6_sheet_8 : decode cX6_sheet 8 = .ok (.iload_n 3, 1) := by decide +kernel
theorem dX6_sheet_9 : decode cX6_sheet 9 = .ok (.bipush 24, 2) := by decide +kernel
theorem dX6_sheet_11 : decode cX6_sheet 11 = .ok (.if_icmp .le 5, 3) := by decide +kernel
theorem dX6_sheet_14 : decode cX6_sheet 14 = .ok (.iconst (-1), 1) := by decide +kernel
theorem dX6_sheet_15 : decode cX6_sheet 15 = .ok (.ireturn, 1) := by decide +kernel
theorem dX6_sheet_16 : decode cX6_sheet 16 = .ok (.iload_n 3, 1) := by decide +kernel
theorem dX6_sheet_17 : decode cX6_sheet 17 = .ok (.ifCond .ge 6, 3) := by decide +kernel
theorem dX6_sheet_20 : decode cX6_sheet 20 = .ok (.bipush (-14), 2) := by decide +kernel
theorem dX6_sheet_22 : decode cX6_sheet 22 = .ok (.ireturn, 1) := by decide +kernel
theorem dX6_sheet_23 : decode cX6_sheet 23 = .ok (.aload_n 0, 1) := by decide +kernel
theorem dX6_sheet_24 : decode cX6_sheet 24 = .ok (.getfield 20, 3) := by decide +kernel
theorem dX6_sheet_27 : decode cX6_sheet 27 = .ok (.iload_n 1, 1) := by decide +kernel
theorem dX6_sheet_28 : decode cX6_sheet 28 = .ok (.iload_n 2, 1) := by decide +kernel
theorem dX6_sheet_29 : decode cX6_sheet 29 = .ok (.iastore, 1) := by decide +kernel
theorem dX6_sheet_30 : decode cX6_sheet 30 = .ok (.aload_n 0, 1) := by decide +kernel
theorem dX6_sheet_31 : decode cX6_sheet 31 = .ok (.getfield 23, 3) := by decide +kernel
theorem dX6_sheet_34 : decode cX6_sheet 34 = .ok (.iload_n 1, 1) := by decide +kernel
theorem dX6_sheet_35 : decode cX6_sheet 35 = .ok (.iload_n 3, 1) := by decide +kernel
theorem dX6_sheet_36 : decode cX6_sheet 36 = .ok (.iastore, 1) := by decide +kernel
theorem dX6_sheet_37 : decode cX6_sheet 37 = .ok (.iconst 0, 1) := by decide +kernel
theorem dX6_sheet_38 : decode cX6_sheet 38 = .ok (.istore 4, 2) := by decide +kernel
theorem dX6_sheet_40 : decode cX6_sheet 40 = .ok (.iload 4, 2) := by decide +kernel
theorem dX6_sheet_42 : decode cX6_sheet 42 = .ok (.bipush 24, 2) := by decide +kernel
theorem dX6_sheet_44 : decode cX6_sheet 44 = .ok (.if_icmp .ge 22, 3) := by decide +kernel
theorem dX6_sheet_47 : decode cX6_sheet 47 = .ok (.aload_n 0, 1) := by decide +kernel
theorem dX6_sheet_48 : decode cX6_sheet 48 = .ok (.getfield 26, 3) := by decide +kernel
theorem dX6_sheet_51 : decode cX6_sheet 51 = .ok (.bipush 24, 2) := by decide +kernel
theorem dX6_sheet_53 : decode cX6_sheet 53 = .ok (.iload_n 1, 1) := by decide +kernel
theorem dX6_sheet_54 : decode cX6_sheet 54 = .ok (.imul, 1) := by decide +kernel
theorem dX6_sheet_55 : decode cX6_sheet 55 = .ok (.iload 4, 2) := by decide +kernel
theorem dX6_sheet_57 : decode cX6_sheet 57 = .ok (.iadd, 1) := by decide +kernel
theorem dX6_sheet_58 : decode cX6_sheet 58 = .ok (.iconst 0, 1) := by decide +kernel
theorem dX6_sheet_59 : decode cX6_sheet 59 = .ok (.iastore, 1) := by decide +kernel
theorem dX6_sheet_60 : decode cX6_sheet 60 = .ok (.iinc 4 1, 3) := by decide +kernel
theorem dX6_sheet_63 : decode cX6_sheet 63 = .ok (.goto (-23), 3) := by decide +kernel
theorem dX6_sheet_66 : decode cX6_sheet 66 = .ok (.iload_n 3, 1) := by decide +kernel
theorem dX6_sheet_67 : decode cX6_sheet 67 = .ok (.ireturn, 1) := by decide +kernel
theorem dX6_drop_0 : decode cX6_drop 0 = .ok (.iload_n 1, 1) := by decide +kernel
theorem dX6_drop_1 : decode cX6_drop 1 = .ok (.i2l, 1) := by decide +kernel
theorem dX6_drop_2 : decode cX6_drop 2 = .ok (.lconst 0, 1) := by decide +kernel
theorem dX6_drop_3 : decode cX6_drop 3 = .ok (.ldc2_w 112, 3) := by decide +kernel
theorem dX6_drop_6 : decode cX6_drop 6 = .ok (.invokestatic 71, 3) := by decide +kernel
theorem dX6_drop_9 : decode cX6_drop 9 = .ok (.ifCond .ne 5, 3) := by decide +kernel
theorem dX6_drop_12 : decode cX6_drop 12 = .ok (.iconst (-1), 1) := by decide +kernel
theorem dX6_drop_13 : decode cX6_drop 13 = .ok (.ireturn, 1) := by decide +kernel
theorem dX6_drop_14 : decode cX6_drop 14 = .ok (.aload_n 0, 1) := by decide +kernel
theorem dX6_drop_15 : decode cX6_drop 15 = .ok (.getfield 20, 3) := by decide +kernel
theorem dX6_drop_18 : decode cX6_drop 18 = .ok (.iload_n 1, 1) := by decide +kernel
theorem dX6_drop_19 : decode cX6_drop 19 = .ok (.iaload, 1) := by decide +kernel
theorem dX6_drop_20 : decode cX6_drop 20 = .ok (.ifCond .ge 6, 3) := by decide +kernel
theorem dX6_drop_23 : decode cX6_drop 23 = .ok (.bipush (-11), 2) := by decide +kernel
theorem dX6_drop_25 : decode cX6_drop 25 = .ok (.ireturn, 1) := by decide +kernel
theorem dX6_drop_26 : decode cX6_drop 26 = .ok (.aload_n 0, 1) := by decide +kernel
theorem dX6_drop_27 : decode cX6_drop 27 = .ok (.getfield 20, 3) := by decide +kernel
theorem dX6_drop_30 : decode cX6_drop 30 = .ok (.iload_n 1, 1) := by decide +kernel
theorem dX6_drop_31 : decode cX6_drop 31 = .ok (.iconst (-1), 1) := by decide +kernel
theorem dX6_drop_32 : decode cX6_drop 32 = .ok (.iastore, 1) := by decide +kernel
theorem dX6_drop_33 : decode cX6_drop 33 = .ok (.aload_n 0, 1) := by decide +kernel
theorem dX6_drop_34 : decode cX6_drop 34 = .ok (.getfield 23, 3) := by decide +kernel
theorem dX6_drop_37 : decode cX6_drop 37 = .ok (.iload_n 1, 1) := by decide +kernel
theorem dX6_drop_38 : decode cX6_drop 38 = .ok (.iaload, 1) := by decide +kernel
theorem dX6_drop_39 : decode cX6_drop 39 = .ok (.ireturn, 1) := by decide +kernel
theorem dX6_against_0 : decode cX6_against 0 = .ok (.aload_n 0, 1) := by decide +kernel
theorem dX6_against_1 : decode cX6_against 1 = .ok (.getfield 20, 3) := by decide +kernel
theorem dX6_against_4 : decode cX6_against 4 = .ok (.iload_n 1, 1) := by decide +kernel
theorem dX6_against_5 : decode cX6_against 5 = .ok (.iaload, 1) := by decide +kernel
theorem dX6_against_6 : decode cX6_against 6 = .ok (.iload_n 2, 1) := by decide +kernel
theorem dX6_against_7 : decode cX6_against 7 = .ok (.if_icmp .ne 7, 3) := by decide +kernel
theorem dX6_against_10 : decode cX6_against 10 = .ok (.iconst 0, 1) := by decide +kernel
theorem dX6_against_11 : decode cX6_against 11 = .ok (.goto 19, 3) := by decide +kernel
theorem dX6_against_14 : decode cX6_against 14 = .ok (.aload_n 0, 1) := by decide +kernel
theorem dX6_against_15 : decode cX6_against 15 = .ok (.getfield 20, 3) := by decide +kernel
theorem dX6_against_18 : decode cX6_against 18 = .ok (.iload_n 1, 1) := by decide +kernel
theorem dX6_against_19 : decode cX6_against 19 = .ok (.iaload, 1) := by decide +kernel
theorem dX6_against_20 : decode cX6_against 20 = .ok (.ifCond .ge 8, 3) := by decide +kernel
theorem dX6_against_23 : decode cX6_against 23 = .ok (.bipush (-11), 2) := by decide +kernel
theorem dX6_against_25 : decode cX6_against 25 = .ok (.goto 5, 3) := by decide +kernel
theorem dX6_against_28 : decode cX6_against 28 = .ok (.bipush (-12), 2) := by decide +kernel
theorem dX6_against_30 : decode cX6_against 30 = .ok (.ireturn, 1) := by decide +kernel
theorem dX6_item_0 : decode cX6_item 0 = .ok (.iload_n 1, 1) := by decide +kernel
theorem dX6_item_1 : decode cX6_item 1 = .ok (.iload_n 2, 1) := by decide +kernel
theorem dX6_item_2 : decode cX6_item 2 = .ok (.invokestatic 114, 3) := by decide +kernel
theorem dX6_item_5 : decode cX6_item 5 = .ok (.ifCond .ne 5, 3) := by decide +kernel
theorem dX6_item_8 : decode cX6_item 8 = .ok (.iconst (-1), 1) := by decide +kernel
theorem dX6_item_9 : decode cX6_item 9 = .ok (.ireturn, 1) := by decide +kernel
theorem dX6_item_10 : decode cX6_item 10 = .ok (.aload_n 0, 1) := by decide +kernel
theorem dX6_item_11 : decode cX6_item 11 = .ok (.iload_n 1, 1) := by decide +kernel
theorem dX6_item_12 : decode cX6_item 12 = .ok (.iload_n 2, 1) := by decide +kernel
theorem dX6_item_13 : decode cX6_item 13 = .ok (.invokevirtual 118, 3) := by decide +kernel
theorem dX6_item_16 : decode cX6_item 16 = .ok (.istore 5, 2) := by decide +kernel
theorem dX6_item_18 : decode cX6_item 18 = .ok (.iload 5, 2) := by decide +kernel
theorem dX6_item_20 : decode cX6_item 20 = .ok (.ifCond .ge 6, 3) := by decide +kernel
theorem dX6_item_23 : decode cX6_item 23 = .ok (.iload 5, 2) := by decide +kernel
theorem dX6_item_25 : decode cX6_item 25 = .ok (.ireturn, 1) := by decide +kernel
theorem dX6_item_26 : decode cX6_item 26 = .ok (.iload_n 3, 1) := by decide +kernel
theorem dX6_item_27 : decode cX6_item 27 = .ok (.i2l, 1) := by decide +kernel
theorem dX6_item_28 : decode cX6_item 28 = .ok (.lconst 0, 1) := by decide +kernel
theorem dX6_item_29 : decode cX6_item 29 = .ok (.aload_n 0, 1) := by decide +kernel
theorem dX6_item_30 : decode cX6_item 30 = .ok (.getfield 23, 3) := by decide +kernel
theorem dX6_item_33 : decode cX6_item 33 = .ok (.iload_n 1, 1) := by decide +kernel
theorem dX6_item_34 : decode cX6_item 34 = .ok (.iaload, 1) := by decide +kernel
theorem dX6_item_35 : decode cX6_item 35 = .ok (.iconst 1, 1) := by decide +kernel
theorem dX6_item_36 : decode cX6_item 36 = .ok (.isub, 1) := by decide +kernel
theorem dX6_item_37 : decode cX6_item 37 = .ok (.i2l, 1) := by decide +kernel
theorem dX6_item_38 : decode cX6_item 38 = .ok (.invokestatic 71, 3) := by decide +kernel
theorem dX6_item_41 : decode cX6_item 41 = .ok (.ifCond .ne 6, 3) := by decide +kernel
theorem dX6_item_44 : decode cX6_item 44 = .ok (.bipush (-13), 2) := by decide +kernel
theorem dX6_item_46 : decode cX6_item 46 = .ok (.ireturn, 1) := by decide +kernel
theorem dX6_item_47 : decode cX6_item 47 = .ok (.aload_n 0, 1) := by decide +kernel
theorem dX6_item_48 : decode cX6_item 48 = .ok (.getfield 26, 3) := by decide +kernel
theorem dX6_item_51 : decode cX6_item 51 = .ok (.bipush 24, 2) := by decide +kernel
theorem dX6_item_53 : decode cX6_item 53 = .ok (.iload_n 1, 1) := by decide +kernel
theorem dX6_item_54 : decode cX6_item 54 = .ok (.imul, 1) := by decide +kernel
theorem dX6_item_55 : decode cX6_item 55 = .ok (.iload_n 3, 1) := by decide +kernel
theorem dX6_item_56 : decode cX6_item 56 = .ok (.iadd, 1) := by decide +kernel
theorem dX6_item_57 : decode cX6_item 57 = .ok (.iload_n 2, 1) := by decide +kernel
theorem dX6_item_58 : decode cX6_item 58 = .ok (.ifCond .ne 14, 3) := by decide +kernel
theorem dX6_item_61 : decode cX6_item 61 = .ok (.iload 4, 2) := by decide +kernel
theorem dX6_item_63 : decode cX6_item 63 = .ok (.bipush 16, 2) := by decide +kernel
theorem dX6_item_65 : decode cX6_item 65 = .ok (.ishl, 1) := by decide +kernel
theorem dX6_item_66 : decode cX6_item 66 = .ok (.bipush 16, 2) := by decide +kernel
theorem dX6_item_68 : decode cX6_item 68 = .ok (.ishr, 1) := by decide +kernel
theorem dX6_item_69 : decode cX6_item 69 = .ok (.goto 5, 3) := by decide +kernel
theorem dX6_item_72 : decode cX6_item 72 = .ok (.iload 4, 2) := by decide +kernel
theorem dX6_item_74 : decode cX6_item 74 = .ok (.iastore, 1) := by decide +kernel
theorem dX6_item_75 : decode cX6_item 75 = .ok (.iconst 1, 1) := by decide +kernel
theorem dX6_item_76 : decode cX6_item 76 = .ok (.ireturn, 1) := by decide +kernel
theorem dX6_source_0 : decode cX6_source 0 = .ok (.iload_n 1, 1) := by decide +kernel
theorem dX6_source_1 : decode cX6_source 1 = .ok (.i2l, 1) := by decide +kernel
theorem dX6_source_2 : decode cX6_source 2 = .ok (.lconst 0, 1) := by decide +kernel
theorem dX6_source_3 : decode cX6_source 3 = .ok (.ldc2_w 79, 3) := by decide +kernel
theorem dX6_source_6 : decode cX6_source 6 = .ok (.invokestatic 71, 3) := by decide +kernel
theorem dX6_source_9 : decode cX6_source 9 = .ok (.ifCond .eq 24, 3) := by decide +kernel
theorem dX6_source_12 : decode cX6_source 12 = .ok (.iload_n 2, 1) := by decide +kernel
theorem dX6_source_13 : decode cX6_source 13 = .ok (.i2l, 1) := by decide +kernel
theorem dX6_source_14 : decode cX6_source 14 = .ok (.lconst 0, 1) := by decide +kernel
theorem dX6_source_15 : decode cX6_source 15 = .ok (.ldc2_w 92, 3) := by decide +kernel
theorem dX6_source_18 : decode cX6_source 18 = .ok (.invokestatic 71, 3) := by decide +kernel
theorem dX6_source_21 : decode cX6_source 21 = .ok (.ifCond .eq 12, 3) := by decide +kernel
theorem dX6_source_24 : decode cX6_source 24 = .ok (.iload_n 3, 1) := by decide +kernel
theorem dX6_source_25 : decode cX6_source 25 = .ok (.iload 4, 2) := by decide +kernel
theorem dX6_source_27 : decode cX6_source 27 = .ok (.invokestatic 114, 3) := by decide +kernel
theorem dX6_source_30 : decode cX6_source 30 = .ok (.ifCond .ne 5, 3) := by decide +kernel
theorem dX6_source_33 : decode cX6_source 33 = .ok (.iconst (-1), 1) := by decide +kernel
theorem dX6_source_34 : decode cX6_source 34 = .ok (.ireturn, 1) := by decide +kernel
theorem dX6_source_35 : decode cX6_source 35 = .ok (.aload_n 0, 1) := by decide +kernel
theorem dX6_source_36 : decode cX6_source 36 = .ok (.iload_n 3, 1) := by decide +kernel
theorem dX6_source_37 : decode cX6_source 37 = .ok (.iload 4, 2) := by decide +kernel
theorem dX6_source_39 : decode cX6_source 39 = .ok (.invokevirtual 118, 3) := by decide +kernel
theorem dX6_source_42 : decode cX6_source 42 = .ok (.istore 5, 2) := by decide +kernel
theorem dX6_source_44 : decode cX6_source 44 = .ok (.iload 5, 2) := by decide +kernel
theorem dX6_source_46 : decode cX6_source 46 = .ok (.ifCond .ge 6, 3) := by decide +kernel
theorem dX6_source_49 : decode cX6_source 49 = .ok (.iload 5, 2) := by decide +kernel
theorem dX6_source_51 : decode cX6_source 51 = .ok (.ireturn, 1) := by decide +kernel
theorem dX6_source_52 : decode cX6_source 52 = .ok (.aload_n 0, 1) := by decide +kernel
theorem dX6_source_53 : decode cX6_source 53 = .ok (.getfield 23, 3) := by decide +kernel
theorem dX6_source_56 : decode cX6_source 56 = .ok (.iload_n 3, 1) := by decide +kernel
theorem dX6_source_57 : decode cX6_source 57 = .ok (.iaload, 1) := by decide +kernel
theorem dX6_source_58 : decode cX6_source 58 = .ok (.bipush 24, 2) := by decide +kernel
theorem dX6_source_60 : decode cX6_source 60 = .ok (.if_icmp .ge 6, 3) := by decide +kernel
theorem dX6_source_63 : decode cX6_source 63 = .ok (.bipush (-13), 2) := by decide +kernel
theorem dX6_source_65 : decode cX6_source 65 = .ok (.ireturn, 1) := by decide +kernel
theorem dX6_source_66 : decode cX6_source 66 = .ok (.iconst 0, 1) := by decide +kernel
theorem dX6_source_67 : decode cX6_source 67 = .ok (.istore 6, 2) := by decide +kernel
theorem dX6_source_69 : decode cX6_source 69 = .ok (.iconst 0, 1) := by decide +kernel
theorem dX6_source_70 : decode cX6_source 70 = .ok (.istore 7, 2) := by decide +kernel
theorem dX6_source_72 : decode cX6_source 72 = .ok (.iload 7, 2) := by decide +kernel
theorem dX6_source_74 : decode cX6_source 74 = .ok (.bipush 24, 2) := by decide +kernel
theorem dX6_source_76 : decode cX6_source 76 = .ok (.if_icmp .ge 52, 3) := by decide +kernel
theorem dX6_source_79 : decode cX6_source 79 = .ok (.aload_n 0, 1) := by decide +kernel
theorem dX6_source_80 : decode cX6_source 80 = .ok (.getfield 26, 3) := by decide +kernel
theorem dX6_source_83 : decode cX6_source 83 = .ok (.bipush 24, 2) := by decide +kernel
theorem dX6_source_85 : decode cX6_source 85 = .ok (.iload_n 3, 1) := by decide +kernel
theorem dX6_source_86 : decode cX6_source 86 = .ok (.imul, 1) := by decide +kernel
theorem dX6_source_87 : decode cX6_source 87 = .ok (.iload 7, 2) := by decide +kernel
theorem dX6_source_89 : decode cX6_source 89 = .ok (.iadd, 1) := by decide +kernel
theorem dX6_source_90 : decode cX6_source 90 = .ok (.iaload, 1) := by decide +kernel
theorem dX6_source_91 : decode cX6_source 91 = .ok (.i2l, 1) := by decide +kernel
theorem dX6_source_92 : decode cX6_source 92 = .ok (.lconst 0, 1) := by decide +kernel
theorem dX6_source_93 : decode cX6_source 93 = .ok (.ldc2_w 121, 3) := by decide +kernel
theorem dX6_source_96 : decode cX6_source 96 = .ok (.invokestatic 71, 3) := by decide +kernel
theorem dX6_source_99 : decode cX6_source 99 = .ok (.ifCond .ne 6, 3) := by decide +kernel
theorem dX6_source_102 : decode cX6_source 102 = .ok (.bipush (-2), 2) := by decide +kernel
theorem dX6_source_104 : decode cX6_source 104 = .ok (.ireturn, 1) := by decide +kernel
theorem dX6_source_105 : decode cX6_source 105 = .ok (.iload 6, 2) := by decide +kernel
theorem dX6_source_107 : decode cX6_source 107 = .ok (.aload_n 0, 1) := by decide +kernel
theorem dX6_source_108 : decode cX6_source 108 = .ok (.getfield 26, 3) := by decide +kernel
theorem dX6_source_111 : decode cX6_source 111 = .ok (.bipush 24, 2) := by decide +kernel
theorem dX6_source_113 : decode cX6_source 113 = .ok (.iload_n 3, 1) := by decide +kernel
theorem dX6_source_114 : decode cX6_source 114 = .ok (.imul, 1) := by decide +kernel
theorem dX6_source_115 : decode cX6_source 115 = .ok (.iload 7, 2) := by decide +kernel
theorem dX6_source_117 : decode cX6_source 117 = .ok (.iadd, 1) := by decide +kernel
theorem dX6_source_118 : decode cX6_source 118 = .ok (.iaload, 1) := by decide +kernel
theorem dX6_source_119 : decode cX6_source 119 = .ok (.iadd, 1) := by decide +kernel
theorem dX6_source_120 : decode cX6_source 120 = .ok (.istore 6, 2) := by decide +kernel
theorem dX6_source_122 : decode cX6_source 122 = .ok (.iinc 7 1, 3) := by decide +kernel
theorem dX6_source_125 : decode cX6_source 125 = .ok (.goto (-53), 3) := by decide +kernel
theorem dX6_source_128 : decode cX6_source 128 = .ok (.aload_n 0, 1) := by decide +kernel
theorem dX6_source_129 : decode cX6_source 129 = .ok (.getfield 29, 3) := by decide +kernel
theorem dX6_source_132 : decode cX6_source 132 = .ok (.iload_n 1, 1) := by decide +kernel
theorem dX6_source_133 : decode cX6_source 133 = .ok (.iload_n 2, 1) := by decide +kernel
theorem dX6_source_134 : decode cX6_source 134 = .ok (.iastore, 1) := by decide +kernel
theorem dX6_source_135 : decode cX6_source 135 = .ok (.iconst 0, 1) := by decide +kernel
theorem dX6_source_136 : decode cX6_source 136 = .ok (.istore 7, 2) := by decide +kernel
theorem dX6_source_138 : decode cX6_source 138 = .ok (.iload 7, 2) := by decide +kernel
theorem dX6_source_140 : decode cX6_source 140 = .ok (.bipush 24, 2) := by decide +kernel
theorem dX6_source_142 : decode cX6_source 142 = .ok (.if_icmp .ge 33, 3) := by decide +kernel
theorem dX6_source_145 : decode cX6_source 145 = .ok (.aload_n 0, 1) := by decide +kernel
theorem dX6_source_146 : decode cX6_source 146 = .ok (.getfield 32, 3) := by decide +kernel
theorem dX6_source_149 : decode cX6_source 149 = .ok (.bipush 24, 2) := by decide +kernel
theorem dX6_source_151 : decode cX6_source 151 = .ok (.iload_n 1, 1) := by decide +kernel
theorem dX6_source_152 : decode cX6_source 152 = .ok (.imul, 1) := by decide +kernel
theorem dX6_source_153 : decode cX6_source 153 = .ok (.iload 7, 2) := by decide +kernel
theorem dX6_source_155 : decode cX6_source 155 = .ok (.iadd, 1) := by decide +kernel
theorem dX6_source_156 : decode cX6_source 156 = .ok (.aload_n 0, 1) := by decide +kernel
theorem dX6_source_157 : decode cX6_source 157 = .ok (.getfield 26, 3) := by decide +kernel
theorem dX6_source_160 : decode cX6_source 160 = .ok (.bipush 24, 2) := by decide +kernel
theorem dX6_source_162 : decode cX6_source 162 = .ok (.iload_n 3, 1) := by decide +kernel
theorem dX6_source_163 : decode cX6_source 163 = .ok (.imul, 1) := by decide +kernel
theorem dX6_source_164 : decode cX6_source 164 = .ok (.iload 7, 2) := by decide +kernel
theorem dX6_source_166 : decode cX6_source 166 = .ok (.iadd, 1) := by decide +kernel
theorem dX6_source_167 : decode cX6_source 167 = .ok (.iaload, 1) := by decide +kernel
theorem dX6_source_168 : decode cX6_source 168 = .ok (.iastore, 1) := by decide +kernel
theorem dX6_source_169 : decode cX6_source 169 = .ok (.iinc 7 1, 3) := by decide +kernel
theorem dX6_source_172 : decode cX6_source 172 = .ok (.goto (-34), 3) := by decide +kernel
theorem dX6_source_175 : decode cX6_source 175 = .ok (.iload 6, 2) := by decide +kernel
theorem dX6_source_177 : decode cX6_source 177 = .ok (.ireturn, 1) := by decide +kernel
theorem dX6_carry_0 : decode cX6_carry 0 = .ok (.aload_n 0, 1) := by decide +kernel
theorem dX6_carry_1 : decode cX6_carry 1 = .ok (.getfield 32, 3) := by decide +kernel
theorem dX6_carry_4 : decode cX6_carry 4 = .ok (.bipush 24, 2) := by decide +kernel
theorem dX6_carry_6 : decode cX6_carry 6 = .ok (.iload_n 1, 1) := by decide +kernel
theorem dX6_carry_7 : decode cX6_carry 7 = .ok (.imul, 1) := by decide +kernel
theorem dX6_carry_8 : decode cX6_carry 8 = .ok (.aload_n 0, 1) := by decide +kernel
theorem dX6_carry_9 : decode cX6_carry 9 = .ok (.getfield 123, 3) := by decide +kernel
theorem dX6_carry_12 : decode cX6_carry 12 = .ok (.bipush 24, 2) := by decide +kernel
theorem dX6_carry_14 : decode cX6_carry 14 = .ok (.irem, 1) := by decide +kernel
theorem dX6_carry_15 : decode cX6_carry 15 = .ok (.iadd, 1) := by decide +kernel
theorem dX6_carry_16 : decode cX6_carry 16 = .ok (.iaload, 1) := by decide +kernel
theorem dX6_carry_17 : decode cX6_carry 17 = .ok (.istore_n 3, 1) := by decide +kernel
theorem dX6_carry_18 : decode cX6_carry 18 = .ok (.aload_n 0, 1) := by decide +kernel
theorem dX6_carry_19 : decode cX6_carry 19 = .ok (.getfield 35, 3) := by decide +kernel
theorem dX6_carry_22 : decode cX6_carry 22 = .ok (.bipush 9, 2) := by decide +kernel
theorem dX6_carry_24 : decode cX6_carry 24 = .ok (.iload_n 1, 1) := by decide +kernel
theorem dX6_carry_25 : decode cX6_carry 25 = .ok (.imul, 1) := by decide +kernel
theorem dX6_carry_26 : decode cX6_carry 26 = .ok (.aload_n 0, 1) := by decide +kernel
theorem dX6_carry_27 : decode cX6_carry 27 = .ok (.getfield 29, 3) := by decide +kernel
theorem dX6_carry_30 : decode cX6_carry 30 = .ok (.iload_n 1, 1) := by decide +kernel
theorem dX6_carry_31 : decode cX6_carry 31 = .ok (.iaload, 1) := by decide +kernel
theorem dX6_carry_32 : decode cX6_carry 32 = .ok (.iadd, 1) := by decide +kernel
theorem dX6_carry_33 : decode cX6_carry 33 = .ok (.dup2, 1) := by decide +kernel
theorem dX6_carry_34 : decode cX6_carry 34 = .ok (.laload, 1) := by decide +kernel
theorem dX6_carry_35 : decode cX6_carry 35 = .ok (.iload_n 3, 1) := by decide +kernel
theorem dX6_carry_36 : decode cX6_carry 36 = .ok (.i2l, 1) := by decide +kernel
theorem dX6_carry_37 : decode cX6_carry 37 = .ok (.ladd, 1) := by decide +kernel
theorem dX6_carry_38 : decode cX6_carry 38 = .ok (.lastore, 1) := by decide +kernel
theorem dX6_carry_39 : decode cX6_carry 39 = .ok (.aload_n 0, 1) := by decide +kernel
theorem dX6_carry_40 : decode cX6_carry 40 = .ok (.getfield 38, 3) := by decide +kernel
theorem dX6_carry_43 : decode cX6_carry 43 = .ok (.iconst 4, 1) := by decide +kernel
theorem dX6_carry_44 : decode cX6_carry 44 = .ok (.iload_n 1, 1) := by decide +kernel
theorem dX6_carry_45 : decode cX6_carry 45 = .ok (.imul, 1) := by decide +kernel
theorem dX6_carry_46 : decode cX6_carry 46 = .ok (.dup2, 1) := by decide +kernel
theorem dX6_carry_47 : decode cX6_carry 47 = .ok (.laload, 1) := by decide +kernel
theorem dX6_carry_48 : decode cX6_carry 48 = .ok (.iload_n 3, 1) := by decide +kernel
theorem dX6_carry_49 : decode cX6_carry 49 = .ok (.i2l, 1) := by decide +kernel
theorem dX6_carry_50 : decode cX6_carry 50 = .ok (.ladd, 1) := by decide +kernel
theorem dX6_carry_51 : decode cX6_carry 51 = .ok (.lastore, 1) := by decide +kernel
theorem dX6_carry_52 : decode cX6_carry 52 = .ok (.iconst 0, 1) := by decide +kernel
theorem dX6_carry_53 : decode cX6_carry 53 = .ok (.istore 4, 2) := by decide +kernel
theorem dX6_carry_55 : decode cX6_carry 55 = .ok (.iload 4, 2) := by decide +kernel
theorem dX6_carry_57 : decode cX6_carry 57 = .ok (.bipush 9, 2) := by decide +kernel
theorem dX6_carry_59 : decode cX6_carry 59 = .ok (.if_icmp .ge 17, 3) := by decide +kernel
theorem dX6_carry_62 : decode cX6_carry 62 = .ok (.aload_n 0, 1) := by decide +kernel
theorem dX6_carry_63 : decode cX6_carry 63 = .ok (.getfield 41, 3) := by decide +kernel
theorem dX6_carry_66 : decode cX6_carry 66 = .ok (.iload 4, 2) := by decide +kernel
theorem dX6_carry_68 : decode cX6_carry 68 = .ok (.lconst 0, 1) := by decide +kernel
theorem dX6_carry_69 : decode cX6_carry 69 = .ok (.lastore, 1) := by decide +kernel
theorem dX6_carry_70 : decode cX6_carry 70 = .ok (.iinc 4 1, 3) := by decide +kernel
theorem dX6_carry_73 : decode cX6_carry 73 = .ok (.goto (-18), 3) := by decide +kernel
theorem dX6_carry_76 : decode cX6_carry 76 = .ok (.iconst 0, 1) := by decide +kernel
theorem dX6_carry_77 : decode cX6_carry 77 = .ok (.istore 4, 2) := by decide +kernel
theorem dX6_carry_79 : decode cX6_carry 79 = .ok (.iload 4, 2) := by decide +kernel
theorem dX6_carry_81 : decode cX6_carry 81 = .ok (.bipush 9, 2) := by decide +kernel
theorem dX6_carry_83 : decode cX6_carry 83 = .ok (.if_icmp .ge 258, 3) := by decide +kernel
theorem dX6_carry_86 : decode cX6_carry 86 = .ok (.aload_n 0, 1) := by decide +kernel
theorem dX6_carry_87 : decode cX6_carry 87 = .ok (.getfield 35, 3) := by decide +kernel
theorem dX6_carry_90 : decode cX6_carry 90 = .ok (.bipush 9, 2) := by decide +kernel
theorem dX6_carry_92 : decode cX6_carry 92 = .ok (.iload_n 1, 1) := by decide +kernel
theorem dX6_carry_93 : decode cX6_carry 93 = .ok (.imul, 1) := by decide +kernel
theorem dX6_carry_94 : decode cX6_carry 94 = .ok (.iload 4, 2) := by decide +kernel
theorem dX6_carry_96 : decode cX6_carry 96 = .ok (.iadd, 1) := by decide +kernel
theorem dX6_carry_97 : decode cX6_carry 97 = .ok (.laload, 1) := by decide +kernel
theorem dX6_carry_98 : decode cX6_carry 98 = .ok (.lstore 5, 2) := by decide +kernel
theorem dX6_carry_100 : decode cX6_carry 100 = .ok (.lload 5, 2) := by decide +kernel
theorem dX6_carry_102 : decode cX6_carry 102 = .ok (.iload_n 2, 1) := by decide +kernel
theorem dX6_carry_103 : decode cX6_carry 103 = .ok (.i2l, 1) := by decide +kernel
theorem dX6_carry_104 : decode cX6_carry 104 = .ok (.lmul, 1) := by decide +kernel
theorem dX6_carry_105 : decode cX6_carry 105 = .ok (.ldc2_w 127, 3) := by decide +kernel
theorem dX6_carry_108 : decode cX6_carry 108 = .ok (.ldiv, 1) := by decide +kernel
theorem dX6_carry_109 : decode cX6_carry 109 = .ok (.lstore 7, 2) := by decide +kernel
theorem dX6_carry_111 : decode cX6_carry 111 = .ok (.lload 5, 2) := by decide +kernel
theorem dX6_carry_113 : decode cX6_carry 113 = .ok (.lload 7, 2) := by decide +kernel
theorem dX6_carry_115 : decode cX6_carry 115 = .ok (.lsub, 1) := by decide +kernel
theorem dX6_carry_116 : decode cX6_carry 116 = .ok (.ldc2_w 127, 3) := by decide +kernel
theorem dX6_carry_119 : decode cX6_carry 119 = .ok (.ldiv, 1) := by decide +kernel
theorem dX6_carry_120 : decode cX6_carry 120 = .ok (.lstore 9, 2) := by decide +kernel
theorem dX6_carry_122 : decode cX6_carry 122 = .ok (.lload 5, 2) := by decide +kernel
theorem dX6_carry_124 : decode cX6_carry 124 = .ok (.lload 7, 2) := by decide +kernel
theorem dX6_carry_126 : decode cX6_carry 126 = .ok (.lsub, 1) := by decide +kernel
theorem dX6_carry_127 : decode cX6_carry 127 = .ok (.lload 9, 2) := by decide +kernel
theorem dX6_carry_129 : decode cX6_carry 129 = .ok (.lsub, 1) := by decide +kernel
theorem dX6_carry_130 : decode cX6_carry 130 = .ok (.lstore 11, 2) := by decide +kernel
theorem dX6_carry_132 : decode cX6_carry 132 = .ok (.aload_n 0, 1) := by decide +kernel
theorem dX6_carry_133 : decode cX6_carry 133 = .ok (.getfield 38, 3) := by decide +kernel
theorem dX6_carry_136 : decode cX6_carry 136 = .ok (.iconst 4, 1) := by decide +kernel
theorem dX6_carry_137 : decode cX6_carry 137 = .ok (.iload_n 1, 1) := by decide +kernel
theorem dX6_carry_138 : decode cX6_carry 138 = .ok (.imul, 1) := by decide +kernel
theorem dX6_carry_139 : decode cX6_carry 139 = .ok (.iconst 1, 1) := by decide +kernel
theorem dX6_carry_140 : decode cX6_carry 140 = .ok (.iadd, 1) := by decide +kernel
theorem dX6_carry_141 : decode cX6_carry 141 = .ok (.dup2, 1) := by decide +kernel
theorem dX6_carry_142 : decode cX6_carry 142 = .ok (.laload, 1) := by decide +kernel
theorem dX6_carry_143 : decode cX6_carry 143 = .ok (.lload 7, 2) := by decide +kernel
theorem dX6_carry_145 : decode cX6_carry 145 = .ok (.ladd, 1) := by decide +kernel
theorem dX6_carry_146 : decode cX6_carry 146 = .ok (.lastore, 1) := by decide +kernel
theorem dX6_carry_147 : decode cX6_carry 147 = .ok (.aload_n 0, 1) := by decide +kernel
theorem dX6_carry_148 : decode cX6_carry 148 = .ok (.getfield 38, 3) := by decide +kernel
theorem dX6_carry_151 : decode cX6_carry 151 = .ok (.iconst 4, 1) := by decide +kernel
theorem dX6_carry_152 : decode cX6_carry 152 = .ok (.iload_n 1, 1) := by decide +kernel
theorem dX6_carry_153 : decode cX6_carry 153 = .ok (.imul, 1) := by decide +kernel
theorem dX6_carry_154 : decode cX6_carry 154 = .ok (.iconst 2, 1) := by decide +kernel
theorem dX6_carry_155 : decode cX6_carry 155 = .ok (.iadd, 1) := by decide +kernel
theorem dX6_carry_156 : decode cX6_carry 156 = .ok (.dup2, 1) := by decide +kernel
theorem dX6_carry_157 : decode cX6_carry 157 = .ok (.laload, 1) := by decide +kernel
theorem dX6_carry_158 : decode cX6_carry 158 = .ok (.lload 9, 2) := by decide +kernel
theorem dX6_carry_160 : decode cX6_carry 160 = .ok (.ladd, 1) := by decide +kernel
theorem dX6_carry_161 : decode cX6_carry 161 = .ok (.lastore, 1) := by decide +kernel
theorem dX6_carry_162 : decode cX6_carry 162 = .ok (.aload_n 0, 1) := by decide +kernel
theorem dX6_carry_163 : decode cX6_carry 163 = .ok (.getfield 41, 3) := by decide +kernel
theorem dX6_carry_166 : decode cX6_carry 166 = .ok (.iload 4, 2) := by decide +kernel
theorem dX6_carry_168 : decode cX6_carry 168 = .ok (.dup2, 1) := by decide +kernel
theorem dX6_carry_169 : decode cX6_carry 169 = .ok (.laload, 1) := by decide +kernel
theorem dX6_carry_170 : decode cX6_carry 170 = .ok (.lload 11, 2) := by decide +kernel
theorem dX6_carry_172 : decode cX6_carry 172 = .ok (.ladd, 1) := by decide +kernel
theorem dX6_carry_173 : decode cX6_carry 173 = .ok (.lastore, 1) := by decide +kernel
theorem dX6_carry_174 : decode cX6_carry 174 = .ok (.iconst 0, 1) := by decide +kernel
theorem dX6_carry_175 : decode cX6_carry 175 = .ok (.istore 13, 2) := by decide +kernel
theorem dX6_carry_177 : decode cX6_carry 177 = .ok (.iload 13, 2) := by decide +kernel
theorem dX6_carry_179 : decode cX6_carry 179 = .ok (.bipush 24, 2) := by decide +kernel
theorem dX6_carry_181 : decode cX6_carry 181 = .ok (.if_icmp .ge 154, 3) := by decide +kernel
theorem dX6_carry_184 : decode cX6_carry 184 = .ok (.iload 13, 2) := by decide +kernel
theorem dX6_carry_186 : decode cX6_carry 186 = .ok (.invokestatic 85, 3) := by decide +kernel
theorem dX6_carry_189 : decode cX6_carry 189 = .ok (.iload 4, 2) := by decide +kernel
theorem dX6_carry_191 : decode cX6_carry 191 = .ok (.if_icmp .ne 7, 3) := by decide +kernel
theorem dX6_carry_194 : decode cX6_carry 194 = .ok (.iconst 1, 1) := by decide +kernel
theorem dX6_carry_195 : decode cX6_carry 195 = .ok (.goto 4, 3) := by decide +kernel
theorem dX6_carry_198 : decode cX6_carry 198 = .ok (.iconst 0, 1) := by decide +kernel
theorem dX6_carry_199 : decode cX6_carry 199 = .ok (.istore 14, 2) := by decide +kernel
theorem dX6_carry_201 : decode cX6_carry 201 = .ok (.iload 14, 2) := by decide +kernel
theorem dX6_carry_203 : decode cX6_carry 203 = .ok (.ifCond .ne 16, 3) := by decide +kernel
theorem dX6_carry_206 : decode cX6_carry 206 = .ok (.iload 13, 2) := by decide +kernel
theorem dX6_carry_208 : decode cX6_carry 208 = .ok (.invokestatic 89, 3) := by decide +kernel
theorem dX6_carry_211 : decode cX6_carry 211 = .ok (.iload 4, 2) := by decide +kernel
theorem dX6_carry_213 : decode cX6_carry 213 = .ok (.if_icmp .eq 6, 3) := by decide +kernel
theorem dX6_carry_216 : decode cX6_carry 216 = .ok (.goto 113, 3) := by decide +kernel
theorem dX6_carry_219 : decode cX6_carry 219 = .ok (.iload 14, 2) := by decide +kernel
theorem dX6_carry_221 : decode cX6_carry 221 = .ok (.ifCond .eq 12, 3) := by decide +kernel
theorem dX6_carry_224 : decode cX6_carry 224 = .ok (.aload_n 0, 1) := by decide +kernel
theorem dX6_carry_225 : decode cX6_carry 225 = .ok (.iload 13, 2) := by decide +kernel
theorem dX6_carry_227 : decode cX6_carry 227 = .ok (.invokevirtual 108, 3) := by decide +kernel
theorem dX6_carry_230 : decode cX6_carry 230 = .ok (.goto 10, 3) := by decide +kernel
theorem dX6_carry_233 : decode cX6_carry 233 = .ok (.aload_n 0, 1) := by decide +kernel
theorem dX6_carry_234 : decode cX6_carry 234 = .ok (.iload 13, 2) := by decide +kernel
theorem dX6_carry_236 : decode cX6_carry 236 = .ok (.invokevirtual 108, 3) := by decide +kernel
theorem dX6_carry_239 : decode cX6_carry 239 = .ok (.lneg, 1) := by decide +kernel
theorem dX6_carry_240 : decode cX6_carry 240 = .ok (.lstore 15, 2) := by decide +kernel
theorem dX6_carry_242 : decode cX6_carry 242 = .ok (.lload 15, 2) := by decide +kernel
theorem dX6_carry_244 : decode cX6_carry 244 = .ok (.lconst 0, 1) := by decide +kernel
theorem dX6_carry_245 : decode cX6_carry 245 = .ok (.lcmp, 1) := by decide +kernel
theorem dX6_carry_246 : decode cX6_carry 246 = .ok (.ifCond .le 83, 3) := by decide +kernel
theorem dX6_carry_249 : decode cX6_carry 249 = .ok (.lload 11, 2) := by decide +kernel
theorem dX6_carry_251 : decode cX6_carry 251 = .ok (.lload 15, 2) := by decide +kernel
theorem dX6_carry_253 : decode cX6_carry 253 = .ok (.lmul, 1) := by decide +kernel
theorem dX6_carry_254 : decode cX6_carry 254 = .ok (.ldc2_w 129, 3) := by decide +kernel
theorem dX6_carry_257 : decode cX6_carry 257 = .ok (.ldiv, 1) := by decide +kernel
theorem dX6_carry_258 : decode cX6_carry 258 = .ok (.lstore 17, 2) := by decide +kernel
theorem dX6_carry_260 : decode cX6_carry 260 = .ok (.iload 14, 2) := by decide +kernel
theorem dX6_carry_262 : decode cX6_carry 262 = .ok (.ifCond .eq 11, 3) := by decide +kernel
theorem dX6_carry_265 : decode cX6_carry 265 = .ok (.iload 13, 2) := by decide +kernel
theorem dX6_carry_267 : decode cX6_carry 267 = .ok (.invokestatic 89, 3) := by decide +kernel
theorem dX6_carry_270 : decode cX6_carry 270 = .ok (.goto 8, 3) := by decide +kernel
theorem dX6_carry_273 : decode cX6_carry 273 = .ok (.iload 13, 2) := by decide +kernel
theorem dX6_carry_275 : decode cX6_carry 275 = .ok (.invokestatic 85, 3) := by decide +kernel
theorem dX6_carry_278 : decode cX6_carry 278 = .ok (.istore 19, 2) := by decide +kernel
theorem dX6_carry_280 : decode cX6_carry 280 = .ok (.aload_n 0, 1) := by decide +kernel
theorem dX6_carry_281 : decode cX6_carry 281 = .ok (.getfield 41, 3) := by decide +kernel
theorem dX6_carry_284 : decode cX6_carry 284 = .ok (.iload 4, 2) := by decide +kernel
theorem dX6_carry_286 : decode cX6_carry 286 = .ok (.dup2, 1) := by decide +kernel
theorem dX6_carry_287 : decode cX6_carry 287 = .ok (.laload, 1) := by decide +kernel
theorem dX6_carry_288 : decode cX6_carry 288 = .ok (.lload 17, 2) := by decide +kernel
theorem dX6_carry_290 : decode cX6_carry 290 = .ok (.lsub, 1) := by decide +kernel
theorem dX6_carry_291 : decode cX6_carry 291 = .ok (.lastore, 1) := by decide +kernel
theorem dX6_carry_292 : decode cX6_carry 292 = .ok (.iload 19, 2) := by decide +kernel
theorem dX6_carry_294 : decode cX6_carry 294 = .ok (.bipush 9, 2) := by decide +kernel
theorem dX6_carry_296 : decode cX6_carry 296 = .ok (.if_icmp .ge 18, 3) := by decide +kernel
theorem dX6_carry_299 : decode cX6_carry 299 = .ok (.aload_n 0, 1) := by decide +kernel
theorem dX6_carry_300 : decode cX6_carry 300 = .ok (.getfield 41, 3) := by decide +kernel
theorem dX6_carry_303 : decode cX6_carry 303 = .ok (.iload 19, 2) := by decide +kernel
theorem dX6_carry_305 : decode cX6_carry 305 = .ok (.dup2, 1) := by decide +kernel
theorem dX6_carry_306 : decode cX6_carry 306 = .ok (.laload, 1) := by decide +kernel
theorem dX6_carry_307 : decode cX6_carry 307 = .ok (.lload 17, 2) := by decide +kernel
theorem dX6_carry_309 : decode cX6_carry 309 = .ok (.ladd, 1) := by decide +kernel
theorem dX6_carry_310 : decode cX6_carry 310 = .ok (.lastore, 1) := by decide +kernel
theorem dX6_carry_311 : decode cX6_carry 311 = .ok (.goto 18, 3) := by decide +kernel
theorem dX6_carry_314 : decode cX6_carry 314 = .ok (.aload_n 0, 1) := by decide +kernel
theorem dX6_carry_315 : decode cX6_carry 315 = .ok (.getfield 38, 3) := by decide +kernel
theorem dX6_carry_318 : decode cX6_carry 318 = .ok (.iconst 4, 1) := by decide +kernel
theorem dX6_carry_319 : decode cX6_carry 319 = .ok (.iload_n 1, 1) := by decide +kernel
theorem dX6_carry_320 : decode cX6_carry 320 = .ok (.imul, 1) := by decide +kernel
theorem dX6_carry_321 : decode cX6_carry 321 = .ok (.iconst 3, 1) := by decide +kernel
theorem dX6_carry_322 : decode cX6_carry 322 = .ok (.iadd, 1) := by decide +kernel
theorem dX6_carry_323 : decode cX6_carry 323 = .ok (.dup2, 1) := by decide +kernel
theorem dX6_carry_324 : decode cX6_carry 324 = .ok (.laload, 1) := by decide +kernel
theorem dX6_carry_325 : decode cX6_carry 325 = .ok (.lload 17, 2) := by decide +kernel
theorem dX6_carry_327 : decode cX6_carry 327 = .ok (.ladd, 1) := by decide +kernel
theorem dX6_carry_328 : decode cX6_carry 328 = .ok (.lastore, 1) := by decide +kernel
theorem dX6_carry_329 : decode cX6_carry 329 = .ok (.iinc 13 1, 3) := by decide +kernel
theorem dX6_carry_332 : decode cX6_carry 332 = .ok (.goto (-155), 3) := by decide +kernel
theorem dX6_carry_335 : decode cX6_carry 335 = .ok (.iinc 4 1, 3) := by decide +kernel
theorem dX6_carry_338 : decode cX6_carry 338 = .ok (.goto (-259), 3) := by decide +kernel
theorem dX6_carry_341 : decode cX6_carry 341 = .ok (.iconst 0, 1) := by decide +kernel
theorem dX6_carry_342 : decode cX6_carry 342 = .ok (.istore 4, 2) := by decide +kernel
theorem dX6_carry_344 : decode cX6_carry 344 = .ok (.iload 4, 2) := by decide +kernel
theorem dX6_carry_346 : decode cX6_carry 346 = .ok (.bipush 9, 2) := by decide +kernel
theorem dX6_carry_348 : decode cX6_carry 348 = .ok (.if_icmp .ge 28, 3) := by decide +kernel
theorem dX6_carry_351 : decode cX6_carry 351 = .ok (.aload_n 0, 1) := by decide +kernel
theorem dX6_carry_352 : decode cX6_carry 352 = .ok (.getfield 35, 3) := by decide +kernel
theorem dX6_carry_355 : decode cX6_carry 355 = .ok (.bipush 9, 2) := by decide +kernel
theorem dX6_carry_357 : decode cX6_carry 357 = .ok (.iload_n 1, 1) := by decide +kernel
