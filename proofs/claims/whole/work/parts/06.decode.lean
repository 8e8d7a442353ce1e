theorem dX12_in_0 : decode cX12_in 0 = .ok (.lload_n 0, 1) := by decide +kernel
theorem dX12_in_1 : decode cX12_in 1 = .ok (.lload_n 2, 1) := by decide +kernel
theorem dX12_in_2 : decode cX12_in 2 = .ok (.lcmp, 1) := by decide +kernel
theorem dX12_in_3 : decode cX12_in 3 = .ok (.ifCond .lt 14, 3) := by decide +kernel
theorem dX12_in_6 : decode cX12_in 6 = .ok (.lload_n 0, 1) := by decide +kernel
theorem dX12_in_7 : decode cX12_in 7 = .ok (.lload 4, 2) := by decide +kernel
theorem dX12_in_9 : decode cX12_in 9 = .ok (.lcmp, 1) := by decide +kernel
theorem dX12_in_10 : decode cX12_in 10 = .ok (.ifCond .gt 7, 3) := by decide +kernel
theorem dX12_in_13 : decode cX12_in 13 = .ok (.iconst 1, 1) := by decide +kernel
theorem dX12_in_14 : decode cX12_in 14 = .ok (.goto 4, 3) := by decide +kernel
theorem dX12_in_17 : decode cX12_in 17 = .ok (.iconst 0, 1) := by decide +kernel
theorem dX12_in_18 : decode cX12_in 18 = .ok (.ireturn, 1) := by decide +kernel
theorem dX12_init_0 : decode cX12_init 0 = .ok (.aload_n 0, 1) := by decide +kernel
theorem dX12_init_1 : decode cX12_init 1 = .ok (.invokespecial 1, 3) := by decide +kernel
theorem dX12_init_4 : decode cX12_init 4 = .ok (.aload_n 0, 1) := by decide +kernel
theorem dX12_init_5 : decode cX12_init 5 = .ok (.sipush 172, 3) := by decide +kernel
theorem dX12_init_8 : decode cX12_init 8 = .ok (.newarray .int, 2) := by decide +kernel
theorem dX12_init_10 : decode cX12_init 10 = .ok (.putfield 7, 3) := by decide +kernel
theorem dX12_init_13 : decode cX12_init 13 = .ok (.aload_n 0, 1) := by decide +kernel
theorem dX12_init_14 : decode cX12_init 14 = .ok (.sipush 344, 3) := by decide +kernel
theorem dX12_init_17 : decode cX12_init 17 = .ok (.newarray .int, 2) := by decide +kernel
theorem dX12_init_19 : decode cX12_init 19 = .ok (.putfield 13, 3) := by decide +kernel
theorem dX12_init_22 : decode cX12_init 22 = .ok (.aload_n 0, 1) := by decide +kernel
theorem dX12_init_23 : decode cX12_init 23 = .ok (.iconst 2, 1) := by decide +kernel
theorem dX12_init_24 : decode cX12_init 24 = .ok (.newarray .boolean, 2) := by decide +kernel
theorem dX12_init_26 : decode cX12_init 26 = .ok (.putfield 16, 3) := by decide +kernel
theorem dX12_init_29 : decode cX12_init 29 = .ok (.aload_n 0, 1) := by decide +kernel
theorem dX12_init_30 : decode cX12_init 30 = .ok (.sipush 172, 3) := by decide +kernel
theorem dX12_init_33 : decode cX12_init 33 = .ok (.newarray .int, 2) := by decide +kernel
theorem dX12_init_35 : decode cX12_init 35 = .ok (.putfield 20, 3) := by decide +kernel
theorem dX12_init_38 : decode cX12_init 38 = .ok (.aload_n 0, 1) := by decide +kernel
theorem dX12_init_39 : decode cX12_init 39 = .ok (.iconst 3, 1) := by decide +kernel
theorem dX12_init_40 : decode cX12_init 40 = .ok (.newarray .int, 2) := by decide +kernel
theorem dX12_init_42 : decode cX12_init 42 = .ok (.putfield 23, 3) := by decide +kernel
theorem dX12_init_45 : decode cX12_init 45 = .ok (.aload_n 0, 1) := by decide +kernel
theorem dX12_init_46 : decode cX12_init 46 = .ok (.sipush 300, 3) := by decide +kernel
theorem dX12_init_49 : decode cX12_init 49 = .ok (.newarray .int, 2) := by decide +kernel
theorem dX12_init_51 : decode cX12_init 51 = .ok (.putfield 26, 3) := by decide +kernel
theorem dX12_init_54 : decode cX12_init 54 = .ok (.aload_n 0, 1) := by decide +kernel
theorem dX12_init_55 : decode cX12_init 55 = .ok (.sipush 300, 3) := by decide +kernel
theorem dX12_init_58 : decode cX12_init 58 = .ok (.newarray .int, 2) := by decide +kernel
theorem dX12_init_60 : decode cX12_init 60 = .ok (.putfield 29, 3) := by decide +kernel
theorem dX12_init_63 : decode cX12_init 63 = .ok (.aload_n 0, 1) := by decide +kernel
theorem dX12_init_64 : decode cX12_init 64 = .ok (.sipush 1500, 3) := by decide +kernel
theorem dX12_init_67 : decode cX12_init 67 = .ok (.newarray .int, 2) := by decide +kernel
theorem dX12_init_69 : decode cX12_init 69 = .ok (.putfield 32, 3) := by decide +kernel
theorem dX12_init_72 : decode cX12_init 72 = .ok (.aload_n 0, 1) := by decide +kernel
theorem dX12_init_73 : decode cX12_init 73 = .ok (.sipush 1296, 3) := by decide +kernel
theorem dX12_init_76 : decode cX12_init 76 = .ok (.newarray .int, 2) := by decide +kernel
theorem dX12_init_78 : decode cX12_init 78 = .ok (.putfield 35, 3) := by decide +kernel
theorem dX12_init_81 : decode cX12_init 81 = .ok (.aload_n 0, 1) := by decide +kernel
theorem dX12_init_82 : decode cX12_init 82 = .ok (.iconst 5, 1) := by decide +kernel
theorem dX12_init_83 : decode cX12_init 83 = .ok (.newarray .int, 2) := by decide +kernel
theorem dX12_init_85 : decode cX12_init 85 = .ok (.putfield 38, 3) := by decide +kernel
theorem dX12_init_88 : decode cX12_init 88 = .ok (.aload_n 0, 1) := by decide +kernel
theorem dX12_init_89 : decode cX12_init 89 = .ok (.iconst 5, 1) := by decide +kernel
theorem dX12_init_90 : decode cX12_init 90 = .ok (.newarray .int, 2) := by decide +kernel
theorem dX12_init_92 : decode cX12_init 92 = .ok (.putfield 41, 3) := by decide +kernel
theorem dX12_init_95 : decode cX12_init 95 = .ok (.aload_n 0, 1) := by decide +kernel
theorem dX12_init_96 : decode cX12_init 96 = .ok (.iconst 5, 1) := by decide +kernel
theorem dX12_init_97 : decode cX12_init 97 = .ok (.newarray .int, 2) := by decide +kernel
theorem dX12_init_99 : decode cX12_init 99 = .ok (.putfield 44, 3) := by decide +kernel
theorem dX12_init_102 : decode cX12_init 102 = .ok (.aload_n 0, 1) := by decide +kernel
theorem dX12_init_103 : decode cX12_init 103 = .ok (.iconst 5, 1) := by decide +kernel
theorem dX12_init_104 : decode cX12_init 104 = .ok (.newarray .int, 2) := by decide +kernel
theorem dX12_init_106 : decode cX12_init 106 = .ok (.putfield 47, 3) := by decide +kernel
theorem dX12_init_109 : decode cX12_init 109 = .ok (.aload_n 0, 1) := by decide +kernel
theorem dX12_init_110 : decode cX12_init 110 = .ok (.sipush 200, 3) := by decide +kernel
theorem dX12_init_113 : decode cX12_init 113 = .ok (.newarray .int, 2) := by decide +kernel
theorem dX12_init_115 : decode cX12_init 115 = .ok (.putfield 50, 3) := by decide +kernel
theorem dX12_init_118 : decode cX12_init 118 = .ok (.aload_n 0, 1) := by decide +kernel
theorem dX12_init_119 : decode cX12_init 119 = .ok (.iconst 5, 1) := by decide +kernel
theorem dX12_init_120 : decode cX12_init 120 = .ok (.newarray .int, 2) := by decide +kernel
theorem dX12_init_122 : decode cX12_init 122 = .ok (.putfield 53, 3) := by decide +kernel
theorem dX12_init_125 : decode cX12_init 125 = .ok (.aload_n 0, 1) := by decide +kernel
theorem dX12_init_126 : decode cX12_init 126 = .ok (.sipush 200, 3) := by decide +kernel
theorem dX12_init_129 : decode cX12_init 129 = .ok (.newarray .int, 2) := by decide +kernel
theorem dX12_init_131 : decode cX12_init 131 = .ok (.putfield 56, 3) := by decide +kernel
theorem dX12_init_134 : decode cX12_init 134 = .ok (.aload_n 0, 1) := by decide +kernel
theorem dX12_init_135 : decode cX12_init 135 = .ok (.sipush 200, 3) := by decide +kernel
theorem dX12_init_138 : decode cX12_init 138 = .ok (.newarray .int, 2) := by decide +kernel
theorem dX12_init_140 : decode cX12_init 140 = .ok (.putfield 59, 3) := by decide +kernel
theorem dX12_init_143 : decode cX12_init 143 = .ok (.aload_n 0, 1) := by decide +kernel
theorem dX12_init_144 : decode cX12_init 144 = .ok (.sipush 220, 3) := by decide +kernel
theorem dX12_init_147 : decode cX12_init 147 = .ok (.newarray .int, 2) := by decide +kernel
theorem dX12_init_149 : decode cX12_init 149 = .ok (.putfield 62, 3) := by decide +kernel
theorem dX12_init_152 : decode cX12_init 152 = .ok (.aload_n 0, 1) := by decide +kernel
theorem dX12_init_153 : decode cX12_init 153 = .ok (.sipush 220, 3) := by decide +kernel
theorem dX12_init_156 : decode cX12_init 156 = .ok (.newarray .int, 2) := by decide +kernel
theorem dX12_init_158 : decode cX12_init 158 = .ok (.putfield 65, 3) := by decide +kernel
theorem dX12_init_161 : decode cX12_init 161 = .ok (.aload_n 0, 1) := by decide +kernel
theorem dX12_init_162 : decode cX12_init 162 = .ok (.sipush 220, 3) := by decide +kernel
theorem dX12_init_165 : decode cX12_init 165 = .ok (.newarray .int, 2) := by decide +kernel
theorem dX12_init_167 : decode cX12_init 167 = .ok (.putfield 68, 3) := by decide +kernel
theorem dX12_init_170 : decode cX12_init 170 = .ok (.aload_n 0, 1) := by decide +kernel
theorem dX12_init_171 : decode cX12_init 171 = .ok (.sipush 220, 3) := by decide +kernel
theorem dX12_init_174 : decode cX12_init 174 = .ok (.newarray .int, 2) := by decide +kernel
theorem dX12_init_176 : decode cX12_init 176 = .ok (.putfield 71, 3) := by decide +kernel
theorem dX12_init_179 : decode cX12_init 179 = .ok (.aload_n 0, 1) := by decide +kernel
theorem dX12_init_180 : decode cX12_init 180 = .ok (.bipush 36, 2) := by decide +kernel
theorem dX12_init_182 : decode cX12_init 182 = .ok (.newarray .int, 2) := by decide +kernel
theorem dX12_init_184 : decode cX12_init 184 = .ok (.putfield 74, 3) := by decide +kernel
theorem dX12_init_187 : decode cX12_init 187 = .ok (.aload_n 0, 1) := by decide +kernel
theorem dX12_init_188 : decode cX12_init 188 = .ok (.bipush 36, 2) := by decide +kernel
theorem dX12_init_190 : decode cX12_init 190 = .ok (.newarray .int, 2) := by decide +kernel
theorem dX12_init_192 : decode cX12_init 192 = .ok (.putfield 77, 3) := by decide +kernel
theorem dX12_init_195 : decode cX12_init 195 = .ok (.aload_n 0, 1) := by decide +kernel
theorem dX12_init_196 : decode cX12_init 196 = .ok (.iconst 5, 1) := by decide +kernel
theorem dX12_init_197 : decode cX12_init 197 = .ok (.newarray .int, 2) := by decide +kernel
theorem dX12_init_199 : decode cX12_init 199 = .ok (.putfield 80, 3) := by decide +kernel
theorem dX12_init_202 : decode cX12_init 202 = .ok (.aload_n 0, 1) := by decide +kernel
theorem dX12_init_203 : decode cX12_init 203 = .ok (.iconst 5, 1) := by decide +kernel
theorem dX12_init_204 : decode cX12_init 204 = .ok (.newarray .int, 2) := by decide +kernel
theorem dX12_init_206 : decode cX12_init 206 = .ok (.putfield 83, 3) := by decide +kernel
theorem dX12_init_209 : decode cX12_init 209 = .ok (.aload_n 0, 1) := by decide +kernel
theorem dX12_init_210 : decode cX12_init 210 = .ok (.iconst 5, 1) := by decide +kernel
theorem dX12_init_211 : decode cX12_init 211 = .ok (.newarray .int, 2) := by decide +kernel
theorem dX12_init_213 : decode cX12_init 213 = .ok (.putfield 86, 3) := by decide +kernel
theorem dX12_init_216 : decode cX12_init 216 = .ok (.aload_n 0, 1) := by decide +kernel
theorem dX12_init_217 : decode cX12_init 217 = .ok (.invokevirtual 89, 3) := by decide +kernel
theorem dX12_init_220 : decode cX12_init 220 = .ok (.aload_n 0, 1) := by decide +kernel
theorem dX12_init_221 : decode cX12_init 221 = .ok (.iconst 1, 1) := by decide +kernel
theorem dX12_init_222 : decode cX12_init 222 = .ok (.putfield 92, 3) := by decide +kernel
theorem dX12_init_225 : decode cX12_init 225 = .ok (.return_, 1) := by decide +kernel
theorem dX12_begins_0 : decode cX12_begins 0 = .ok (.iconst 0, 1) := by decide +kernel
theorem dX12_begins_1 : decode cX12_begins 1 = .ok (.istore_n 1, 1) := by decide +kernel
theorem dX12_begins_2 : decode cX12_begins 2 = .ok (.iload_n 1, 1) := by decide +kernel
theorem dX12_begins_3 : decode cX12_begins 3 = .ok (.sipush 172, 3) := by decide +kernel
theorem dX12_begins_6 : decode cX12_begins 6 = .ok (.if_icmp .ge 16, 3) := by decide +kernel
theorem dX12_begins_9 : decode cX12_begins 9 = .ok (.aload_n 0, 1) := by decide +kernel
theorem dX12_begins_10 : decode cX12_begins 10 = .ok (.getfield 7, 3) := by decide +kernel
theorem dX12_begins_13 : decode cX12_begins 13 = .ok (.iload_n 1, 1) := by decide +kernel
theorem dX12_begins_14 : decode cX12_begins 14 = .ok (.iconst 0, 1) := by decide +kernel
theorem dX12_begins_15 : decode cX12_begins 15 = .ok (.iastore, 1) := by decide +kernel
theorem dX12_begins_16 : decode cX12_begins 16 = .ok (.iinc 1 1, 3) := by decide +kernel
theorem dX12_begins_19 : decode cX12_begins 19 = .ok (.goto (-17), 3) := by decide +kernel
theorem dX12_begins_22 : decode cX12_begins 22 = .ok (.aload_n 0, 1) := by decide +kernel
theorem dX12_begins_23 : decode cX12_begins 23 = .ok (.getfield 7, 3) := by decide +kernel
theorem dX12_begins_26 : decode cX12_begins 26 = .ok (.iconst 5, 1) := by decide +kernel
theorem dX12_begins_27 : decode cX12_begins 27 = .ok (.iconst 2, 1) := by decide +kernel
theorem dX12_begins_28 : decode cX12_begins 28 = .ok (.iastore, 1) := by decide +kernel
theorem dX12_begins_29 : decode cX12_begins 29 = .ok (.return_, 1) := by decide +kernel
theorem dX12_refuses_0 : decode cX12_refuses 0 = .ok (.aload_n 0, 1) := by decide +kernel
theorem dX12_refuses_1 : decode cX12_refuses 1 = .ok (.getfield 23, 3) := by decide +kernel
theorem dX12_refuses_4 : decode cX12_refuses 4 = .ok (.iload_n 1, 1) := by decide +kernel
theorem dX12_refuses_5 : decode cX12_refuses 5 = .ok (.dup2, 1) := by decide +kernel
theorem dX12_refuses_6 : decode cX12_refuses 6 = .ok (.iaload, 1) := by decide +kernel
theorem dX12_refuses_7 : decode cX12_refuses 7 = .ok (.aload_n 0, 1) := by decide +kernel
theorem dX12_refuses_8 : decode cX12_refuses 8 = .ok (.getfield 96, 3) := by decide +kernel
theorem dX12_refuses_11 : decode cX12_refuses 11 = .ok (.ifCond .eq 7, 3) := by decide +kernel
theorem dX12_refuses_14 : decode cX12_refuses 14 = .ok (.iconst 0, 1) := by decide +kernel
theorem dX12_refuses_15 : decode cX12_refuses 15 = .ok (.goto 4, 3) := by decide +kernel
theorem dX12_refuses_18 : decode cX12_refuses 18 = .ok (.iconst 1, 1) := by decide +kernel
theorem dX12_refuses_19 : decode cX12_refuses 19 = .ok (.iadd, 1) := by decide +kernel
theorem dX12_refuses_20 : decode cX12_refuses 20 = .ok (.iastore, 1) := by decide +kernel
theorem dX12_refuses_21 : decode cX12_refuses 21 = .ok (.iload_n 2, 1) := by decide +kernel
theorem dX12_refuses_22 : decode cX12_refuses 22 = .ok (.ireturn, 1) := by decide +kernel
theorem dX12_bad_0 : decode cX12_bad 0 = .ok (.aload_n 0, 1) := by decide +kernel
theorem dX12_bad_1 : decode cX12_bad 1 = .ok (.iconst 0, 1) := by decide +kernel
theorem dX12_bad_2 : decode cX12_bad 2 = .ok (.bipush (-2), 2) := by decide +kernel
theorem dX12_bad_4 : decode cX12_bad 4 = .ok (.invokevirtual 100, 3) := by decide +kernel
theorem dX12_bad_7 : decode cX12_bad 7 = .ok (.ireturn, 1) := by decide +kernel
theorem dX12_no_0 : decode cX12_no 0 = .ok (.aload_n 0, 1) := by decide +kernel
theorem dX12_no_1 : decode cX12_no 1 = .ok (.iconst 1, 1) := by decide +kernel
theorem dX12_no_2 : decode cX12_no 2 = .ok (.bipush (-3), 2) := by decide +kernel
theorem dX12_no_4 : decode cX12_no 4 = .ok (.invokevirtual 100, 3) := by decide +kernel
theorem dX12_no_7 : decode cX12_no 7 = .ok (.ireturn, 1) := by decide +kernel
theorem dX12_full_0 : decode cX12_full 0 = .ok (.aload_n 0, 1) := by decide +kernel
theorem dX12_full_1 : decode cX12_full 1 = .ok (.iconst 2, 1) := by decide +kernel
theorem dX12_full_2 : decode cX12_full 2 = .ok (.bipush (-4), 2) := by decide +kernel
theorem dX12_full_4 : decode cX12_full 4 = .ok (.invokevirtual 100, 3) := by decide +kernel
theorem dX12_full_7 : decode cX12_full 7 = .ok (.ireturn, 1) := by decide +kernel
theorem dX12_puts_0 : decode cX12_puts 0 = .ok (.aload_n 0, 1) := by decide +kernel
theorem dX12_puts_1 : decode cX12_puts 1 = .ok (.getfield 7, 3) := by decide +kernel
theorem dX12_puts_4 : decode cX12_puts 4 = .ok (.iload_n 1, 1) := by decide +kernel
theorem dX12_puts_5 : decode cX12_puts 5 = .ok (.iaload, 1) := by decide +kernel
theorem dX12_puts_6 : decode cX12_puts 6 = .ok (.istore_n 3, 1) := by decide +kernel
theorem dX12_puts_7 : decode cX12_puts 7 = .ok (.aload_n 0, 1) := by decide +kernel
theorem dX12_puts_8 : decode cX12_puts 8 = .ok (.getfield 7, 3) := by decide +kernel
theorem dX12_puts_11 : decode cX12_puts 11 = .ok (.iload_n 1, 1) := by decide +kernel
theorem dX12_puts_12 : decode cX12_puts 12 = .ok (.iload_n 2, 1) := by decide +kernel
theorem dX12_puts_13 : decode cX12_puts 13 = .ok (.iastore, 1) := by decide +kernel
theorem dX12_puts_14 : decode cX12_puts 14 = .ok (.iload_n 3, 1) := by decide +kernel
theorem dX12_puts_15 : decode cX12_puts 15 = .ok (.ireturn, 1) := by decide +kernel
theorem dX12_isCell_0 : decode cX12_isCell 0 = .ok (.iload_n 0, 1) := by decide +kernel
theorem dX12_isCell_1 : decode cX12_isCell 1 = .ok (.i2l, 1) := by decide +kernel
theorem dX12_isCell_2 : decode cX12_isCell 2 = .ok (.lconst 0, 1) := by decide +kernel
theorem dX12_isCell_3 : decode cX12_isCell 3 = .ok (.ldc2_w 104, 3) := by decide +kernel
theorem dX12_isCell_6 : decode cX12_isCell 6 = .ok (.invokestatic 106, 3) := by decide +kernel
theorem dX12_isCell_9 : decode cX12_isCell 9 = .ok (.ireturn, 1) := by decide +kernel
theorem dX12_isWall_0 : decode cX12_isWall 0 = .ok (.aload_n 0, 1) := by decide +kernel
theorem dX12_isWall_1 : decode cX12_isWall 1 = .ok (.getfield 7, 3) := by decide +kernel
theorem dX12_isWall_4 : decode cX12_isWall 4 = .ok (.bipush 10, 2) := by decide +kernel
theorem dX12_isWall_6 : decode cX12_isWall 6 = .ok (.iload_n 1, 1) := by decide +kernel
theorem dX12_isWall_7 : decode cX12_isWall 7 = .ok (.iadd, 1) := by decide +kernel
theorem dX12_isWall_8 : decode cX12_isWall 8 = .ok (.iaload, 1) := by decide +kernel
theorem dX12_isWall_9 : decode cX12_isWall 9 = .ok (.iconst 1, 1) := by decide +kernel
theorem dX12_isWall_10 : decode cX12_isWall 10 = .ok (.if_icmp .ne 7, 3) := by decide +kernel
theorem dX12_isWall_13 : decode cX12_isWall 13 = .ok (.iconst 1, 1) := by decide +kernel
theorem dX12_isWall_14 : decode cX12_isWall 14 = .ok (.goto 4, 3) := by decide +kernel
theorem dX12_isWall_17 : decode cX12_isWall 17 = .ok (.iconst 0, 1) := by decide +kernel
theorem dX12_isWall_18 : decode cX12_isWall 18 = .ok (.ireturn, 1) := by decide +kernel
theorem dX12_isBedAt_0 : decode cX12_isBedAt 0 = .ok (.iconst 0, 1) := by decide +kernel
theorem dX12_isBedAt_1 : decode cX12_isBedAt 1 = .ok (.istore_n 2, 1) := by decide +kernel
theorem dX12_isBedAt_2 : decode cX12_isBedAt 2 = .ok (.iconst 0, 1) := by decide +kernel
theorem dX12_isBedAt_3 : decode cX12_isBedAt 3 = .ok (.istore_n 3, 1) := by decide +kernel
theorem dX12_isBedAt_4 : decode cX12_isBedAt 4 = .ok (.iload_n 3, 1) := by decide +kernel
theorem dX12_isBedAt_5 : decode cX12_isBedAt 5 = .ok (.aload_n 0, 1) := by decide +kernel
theorem dX12_isBedAt_6 : decode cX12_isBedAt 6 = .ok (.getfield 7, 3) := by decide +kernel
theorem dX12_isBedAt_9 : decode cX12_isBedAt 9 = .ok (.iconst 1, 1) := by decide +kernel
theorem dX12_isBedAt_10 : decode cX12_isBedAt 10 = .ok (.iaload, 1) := by decide +kernel
theorem dX12_isBedAt_11 : decode cX12_isBedAt 11 = .ok (.if_icmp .ge 32, 3) := by decide +kernel
theorem dX12_isBedAt_14 : decode cX12_isBedAt 14 = .ok (.iload_n 2, 1) := by decide +kernel
theorem dX12_isBedAt_15 : decode cX12_isBedAt 15 = .ok (.ifCond .ne 16, 3) := by decide +kernel
theorem dX12_isBedAt_18 : decode cX12_isBedAt 18 = .ok (.aload_n 0, 1) := by decide +kernel
theorem dX12_isBedAt_19 : decode cX12_isBedAt 19 = .ok (.getfield 7, 3) := by decide +kernel
theorem dX12_isBedAt_22 : decode cX12_isBedAt 22 = .ok (.bipush 82, 2) := by decide +kernel
theorem dX12_isBedAt_24 : decode cX12_isBedAt 24 = .ok (.iload_n 3, 1) := by decide +kernel
theorem dX12_isBedAt_25 : decode cX12_isBedAt 25 = .ok (.iadd, 1) := by decide +kernel
theorem dX12_isBedAt_26 : decode cX12_isBedAt 26 = .ok (.iaload, 1) := by decide +kernel
theorem dX12_isBedAt_27 : decode cX12_isBedAt 27 = .ok (.iload_n 1, 1) := by decide +kernel
theorem dX12_isBedAt_28 : decode cX12_isBedAt 28 = .ok (.if_icmp .ne 7, 3) := by decide +kernel
theorem dX12_isBedAt_31 : decode cX12_isBedAt 31 = .ok (.iconst 1, 1) := by decide +kernel
theorem dX12_isBedAt_32 : decode cX12_isBedAt 32 = .ok (.goto 4, 3) := by decide +kernel
theorem dX12_isBedAt_35 : decode cX12_isBedAt 35 = .ok (.iconst 0, 1) := by decide +kernel
theorem dX12_isBedAt_36 : decode cX12_isBedAt 36 = .ok (.istore_n 2, 1) := by decide +kernel
theorem dX12_isBedAt_37 : decode cX12_isBedAt 37 = .ok (.iinc 3 1, 3) := by decide +kernel
theorem dX12_isBedAt_40 : decode cX12_isBedAt 40 = .ok (.goto (-36), 3) := by decide +kernel
theorem dX12_isBedAt_43 : decode cX12_isBedAt 43 = .ok (.iload_n 2, 1) := by decide +kernel
theorem dX12_isBedAt_44 : decode cX12_isBedAt 44 = .ok (.ireturn, 1) := by decide +kernel
theorem dX12_isBed_0 : decode cX12_isBed 0 = .ok (.iload_n 1, 1) := by decide +kernel
theorem dX12_isBed_1 : decode cX12_isBed 1 = .ok (.i2l, 1) := by decide +kernel
theorem dX12_isBed_2 : decode cX12_isBed 2 = .ok (.lconst 0, 1) := by decide +kernel
theorem dX12_isBed_3 : decode cX12_isBed 3 = .ok (.aload_n 0, 1) := by decide +kernel
theorem dX12_isBed_4 : decode cX12_isBed 4 = .ok (.getfield 7, 3) := by decide +kernel
theorem dX12_isBed_7 : decode cX12_isBed 7 = .ok (.iconst 1, 1) := by decide +kernel
theorem dX12_isBed_8 : decode cX12_isBed 8 = .ok (.iaload, 1) := by decide +kernel
theorem dX12_isBed_9 : decode cX12_isBed 9 = .ok (.iconst 1, 1) := by decide +kernel
theorem dX12_isBed_10 : decode cX12_isBed 10 = .ok (.isub, 1) := by decide +kernel
theorem dX12_isBed_11 : decode cX12_isBed 11 = .ok (.i2l, 1) := by decide +kernel
theorem dX12_isBed_12 : decode cX12_isBed 12 = .ok (.invokestatic 106, 3) := by decide +kernel
theorem dX12_isBed_15 : decode cX12_isBed 15 = .ok (.ireturn, 1) := by decide +kernel
theorem dX12_isSleeper_0 : decode cX12_isSleeper 0 = .ok (.iload_n 1, 1) := by decide +kernel
theorem dX12_isSleeper_1 : decode cX12_isSleeper 1 = .ok (.i2l, 1) := by decide +kernel
theorem dX12_isSleeper_2 : decode cX12_isSleeper 2 = .ok (.lconst 0, 1) := by decide +kernel
theorem dX12_isSleeper_3 : decode cX12_isSleeper 3 = .ok (.aload_n 0, 1) := by decide +kernel
theorem dX12_isSleeper_4 : decode cX12_isSleeper 4 = .ok (.getfield 7, 3) := by decide +kernel
theorem dX12_isSleeper_7 : decode cX12_isSleeper 7 = .ok (.iconst 2, 1) := by decide +kernel
theorem dX12_isSleeper_8 : decode cX12_isSleeper 8 = .ok (.iaload, 1) := by decide +kernel
theorem dX12_isSleeper_9 : decode cX12_isSleeper 9 = .ok (.iconst 1, 1) := by decide +kernel
theorem dX12_isSleeper_10 : decode cX12_isSleeper 10 = .ok (.isub, 1) := by decide +kernel
theorem dX12_isSleeper_11 : decode cX12_isSleeper 11 = .ok (.i2l, 1) := by decide +kernel
theorem dX12_isSleeper_12 : decode cX12_isSleeper 12 = .ok (.invokestatic 106, 3) := by decide +kernel
theorem dX12_isSleeper_15 : decode cX12_isSleeper 15 = .ok (.ireturn, 1) := by decide +kernel
theorem dX12_of_0 : decode cX12_of 0 = .ok (.aload_n 0, 1) := by decide +kernel
theorem dX12_of_1 : decode cX12_of 1 = .ok (.getfield 7, 3) := by decide +kernel
theorem dX12_of_4 : decode cX12_of 4 = .ok (.bipush 90, 2) := by decide +kernel
theorem dX12_of_6 : decode cX12_of 6 = .ok (.bipush 6, 2) := by decide +kernel
theorem dX12_of_8 : decode cX12_of 8 = .ok (.iload_n 1, 1) := by decide +kernel
theorem dX12_of_9 : decode cX12_of 9 = .ok (.imul, 1) := by decide +kernel
theorem dX12_of_10 : decode cX12_of 10 = .ok (.iadd, 1) := by decide +kernel
theorem dX12_of_11 : decode cX12_of 11 = .ok (.iload_n 2, 1) := by decide +kernel
theorem dX12_of_12 : decode cX12_of 12 = .ok (.iadd, 1) := by decide +kernel
theorem dX12_of_13 : decode cX12_of 13 = .ok (.iaload, 1) := by decide +kernel
theorem dX12_of_14 : decode cX12_of 14 = .ok (.ireturn, 1) := by decide +kernel
theorem dX12_wall_0 : decode cX12_wall 0 = .ok (.iload_n 1, 1) := by decide +kernel
theorem dX12_wall_1 : decode cX12_wall 1 = .ok (.invokestatic 110, 3) := by decide +kernel
theorem dX12_wall_4 : decode cX12_wall 4 = .ok (.ifCond .eq 22, 3) := by decide +kernel
theorem dX12_wall_7 : decode cX12_wall 7 = .ok (.aload_n 0, 1) := by decide +kernel
theorem dX12_wall_8 : decode cX12_wall 8 = .ok (.iload_n 1, 1) := by decide +kernel
theorem dX12_wall_9 : decode cX12_wall 9 = .ok (.invokevirtual 114, 3) := by decide +kernel
theorem dX12_wall_12 : decode cX12_wall 12 = .ok (.ifCond .ne 14, 3) := by decide +kernel
theorem dX12_wall_15 : decode cX12_wall 15 = .ok (.aload_n 0, 1) := by decide +kernel
theorem dX12_wall_16 : decode cX12_wall 16 = .ok (.getfield 7, 3) := by decide +kernel
theorem dX12_wall_19 : decode cX12_wall 19 = .ok (.bipush 6, 2) := by decide +kernel
theorem dX12_wall_21 : decode cX12_wall 21 = .ok (.iaload, 1) := by decide +kernel
theorem dX12_wall_22 : decode cX12_wall 22 = .ok (.iload_n 1, 1) := by decide +kernel
theorem dX12_wall_23 : decode cX12_wall 23 = .ok (.if_icmp .ne 8, 3) := by decide +kernel
theorem dX12_wall_26 : decode cX12_wall 26 = .ok (.aload_n 0, 1) := by decide +kernel
theorem dX12_wall_27 : decode cX12_wall 27 = .ok (.invokevirtual 117, 3) := by decide +kernel
theorem dX12_wall_30 : decode cX12_wall 30 = .ok (.ireturn, 1) := by decide +kernel
theorem dX12_wall_31 : decode cX12_wall 31 = .ok (.aload_n 0, 1) := by decide +kernel
theorem dX12_wall_32 : decode cX12_wall 32 = .ok (.iload_n 1, 1) := by decide +kernel
theorem dX12_wall_33 : decode cX12_wall 33 = .ok (.invokevirtual 121, 3) := by decide +kernel
theorem dX12_wall_36 : decode cX12_wall 36 = .ok (.iload_n 2, 1) := by decide +kernel
theorem dX12_wall_37 : decode cX12_wall 37 = .ok (.if_icmp .ne 8, 3) := by decide +kernel
theorem dX12_wall_40 : decode cX12_wall 40 = .ok (.aload_n 0, 1) := by decide +kernel
theorem dX12_wall_41 : decode cX12_wall 41 = .ok (.invokevirtual 124, 3) := by decide +kernel
theorem dX12_wall_44 : decode cX12_wall 44 = .ok (.ireturn, 1) := by decide +kernel
theorem dX12_wall_45 : decode cX12_wall 45 = .ok (.aload_n 0, 1) := by decide +kernel
theorem dX12_wall_46 : decode cX12_wall 46 = .ok (.getfield 7, 3) := by decide +kernel
theorem dX12_wall_49 : decode cX12_wall 49 = .ok (.bipush 10, 2) := by decide +kernel
theorem dX12_wall_51 : decode cX12_wall 51 = .ok (.iload_n 1, 1) := by decide +kernel
theorem dX12_wall_52 : decode cX12_wall 52 = .ok (.iadd, 1) := by decide +kernel
theorem dX12_wall_53 : decode cX12_wall 53 = .ok (.iload_n 2, 1) := by decide +kernel
theorem dX12_wall_54 : decode cX12_wall 54 = .ok (.ifCond .eq 7, 3) := by decide +kernel
theorem dX12_wall_57 : decode cX12_wall 57 = .ok (.iconst 1, 1) := by decide +kernel
theorem dX12_wall_58 : decode cX12_wall 58 = .ok (.goto 4, 3) := by decide +kernel
theorem dX12_wall_61 : decode cX12_wall 61 = .ok (.iconst 0, 1) := by decide +kernel
theorem dX12_wall_62 : decode cX12_wall 62 = .ok (.iastore, 1) := by decide +kernel
theorem dX12_wall_63 : decode cX12_wall 63 = .ok (.aload_n 0, 1) := by decide +kernel
theorem dX12_wall_64 : decode cX12_wall 64 = .ok (.getfield 7, 3) := by decide +kernel
theorem dX12_wall_67 : decode cX12_wall 67 = .ok (.iconst 0, 1) := by decide +kernel
theorem dX12_wall_68 : decode cX12_wall 68 = .ok (.dup2, 1) := by decide +kernel
theorem dX12_wall_69 : decode cX12_wall 69 = .ok (.iaload, 1) := by decide +kernel
theorem dX12_wall_70 : decode cX12_wall 70 = .ok (.iload_n 2, 1) := by decide +kernel
theorem dX12_wall_71 : decode cX12_wall 71 = .ok (.ifCond .eq 7, 3) := by decide +kernel
theorem dX12_wall_74 : decode cX12_wall 74 = .ok (.iconst 1, 1) := by decide +kernel
theorem dX12_wall_75 : decode cX12_wall 75 = .ok (.goto 4, 3) := by decide +kernel
theorem dX12_wall_78 : decode cX12_wall 78 = .ok (.iconst (-1), 1) := by decide +kernel
theorem dX12_wall_79 : decode cX12_wall 79 = .ok (.iadd, 1) := by decide +kernel
theorem dX12_wall_80 : decode cX12_wall 80 = .ok (.iastore, 1) := by decide +kernel
theorem dX12_wall_81 : decode cX12_wall 81 = .ok (.iconst 1, 1) := by decide +kernel
theorem dX12_wall_82 : decode cX12_wall 82 = .ok (.ireturn, 1) := by decide +kernel
theorem dX12_board_0 : decode cX12_board 0 = .ok (.iload_n 1, 1) := by decide +kernel
theorem dX12_board_1 : decode cX12_board 1 = .ok (.invokestatic 110, 3) := by decide +kernel
theorem dX12_board_4 : decode cX12_board 4 = .ok (.ifCond .eq 27, 3) := by decide +kernel
theorem dX12_board_7 : decode cX12_board 7 = .ok (.iload_n 2, 1) := by decide +kernel
theorem dX12_board_8 : decode cX12_board 8 = .ok (.i2l, 1) := by decide +kernel
theorem dX12_board_9 : decode cX12_board 9 = .ok (.lconst 0, 1) := by decide +kernel
theorem dX12_board_10 : decode cX12_board 10 = .ok (.ldc2_w 127, 3) := by decide +kernel
theorem dX12_board_13 : decode cX12_board 13 = .ok (.invokestatic 106, 3) := by decide +kernel
theorem dX12_board_16 : decode cX12_board 16 = .ok (.ifCond .eq 15, 3) := by decide +kernel
theorem dX12_board_19 : decode cX12_board 19 = .ok (.aload_n 0, 1) := by decide +kernel
theorem dX12_board_20 : decode cX12_board 20 = .ok (.bipush 46, 2) := by decide +kernel
theorem dX12_board_22 : decode cX12_board 22 = .ok (.iload_n 1, 1) := by decide +kernel
theorem dX12_board_23 : decode cX12_board 23 = .ok (.iadd, 1) := by decide +kernel
theorem dX12_board_24 : decode cX12_board 24 = .ok (.iload_n 2, 1) := by decide +kernel
theorem dX12_board_25 : decode cX12_board 25 = .ok (.invokevirtual 129, 3) := by decide +kernel
theorem dX12_board_28 : decode cX12_board 28 = .ok (.goto 7, 3) := by decide +kernel
theorem dX12_board_31 : decode cX12_board 31 = .ok (.aload_n 0, 1) := by decide +kernel
theorem dX12_board_32 : decode cX12_board 32 = .ok (.invokevirtual 117, 3) := by decide +kernel
theorem dX12_board_35 : decode cX12_board 35 = .ok (.ireturn, 1) := by decide +kernel
theorem dX12_put_0 : decode cX12_put 0 = .ok (.iload_n 1, 1) := by decide +kernel
theorem dX12_put_1 : decode cX12_put 1 = .ok (.ifCond .ne 22, 3) := by decide +kernel
theorem dX12_put_4 : decode cX12_put 4 = .ok (.iload_n 2, 1) := by decide +kernel
theorem dX12_put_5 : decode cX12_put 5 = .ok (.i2l, 1) := by decide +kernel
theorem dX12_put_6 : decode cX12_put 6 = .ok (.lconst 0, 1) := by decide +kernel
theorem dX12_put_7 : decode cX12_put 7 = .ok (.ldc2_w 132, 3) := by decide +kernel
theorem dX12_put_10 : decode cX12_put 10 = .ok (.invokestatic 106, 3) := by decide +kernel
theorem dX12_put_13 : decode cX12_put 13 = .ok (.ifCond .eq 10, 3) := by decide +kernel
theorem dX12_put_16 : decode cX12_put 16 = .ok (.aload_n 0, 1) := by decide +kernel
theorem dX12_put_17 : decode cX12_put 17 = .ok (.iconst 5, 1) := by decide +kernel
theorem dX12_put_18 : decode cX12_put 18 = .ok (.iload_n 2, 1) := by decide +kernel
theorem dX12_put_19 : decode cX12_put 19 = .ok (.invokevirtual 129, 3) := by decide +kernel
theorem dX12_put_22 : decode cX12_put 22 = .ok (.ireturn, 1) := by decide +kernel
theorem dX12_put_23 : decode cX12_put 23 = .ok (.iload_n 1, 1) := by decide +kernel
theorem dX12_put_24 : decode cX12_put 24 = .ok (.iconst 1, 1) := by decide +kernel
theorem dX12_put_25 : decode cX12_put 25 = .ok (.if_icmp .ne 26, 3) := by decide +kernel
theorem dX12_put_28 : decode cX12_put 28 = .ok (.iload_n 2, 1) := by decide +kernel
theorem dX12_put_29 : decode cX12_put 29 = .ok (.invokestatic 110, 3) := by decide +kernel
theorem dX12_put_32 : decode cX12_put 32 = .ok (.ifCond .eq 19, 3) := by decide +kernel
theorem dX12_put_35 : decode cX12_put 35 = .ok (.aload_n 0, 1) := by decide +kernel
theorem dX12_put_36 : decode cX12_put 36 = .ok (.iload_n 2, 1) := by decide +kernel
theorem dX12_put_37 : decode cX12_put 37 = .ok (.invokevirtual 121, 3) := by decide +kernel
theorem dX12_put_40 : decode cX12_put 40 = .ok (.ifCond .ne 11, 3) := by decide +kernel
theorem dX12_put_43 : decode cX12_put 43 = .ok (.aload_n 0, 1) := by decide +kernel
theorem dX12_put_44 : decode cX12_put 44 = .ok (.bipush 6, 2) := by decide +kernel
theorem dX12_put_46 : decode cX12_put 46 = .ok (.iload_n 2, 1) := by decide +kernel
theorem dX12_put_47 : decode cX12_put 47 = .ok (.invokevirtual 129, 3) := by decide +kernel
theorem dX12_put_50 : decode cX12_put 50 = .ok (.ireturn, 1) := by decide +kernel
theorem dX12_put_51 : decode cX12_put 51 = .ok (.aload_n 0, 1) := by decide +kernel
theorem dX12_put_52 : decode cX12_put 52 = .ok (.invokevirtual 117, 3) := by decide +kernel
theorem dX12_put_55 : decode cX12_put 55 = .ok (.ireturn, 1) := by decide +kernel
theorem dX12_bed_0 : decode cX12_bed 0 = .ok (.iload_n 1, 1) := by decide +kernel
theorem dX12_bed_1 : decode cX12_bed 1 = .ok (.invokestatic 110, 3) := by decide +kernel
theorem dX12_bed_4 : decode cX12_bed 4 = .ok (.ifCond .eq 19, 3) := by decide +kernel
theorem dX12_bed_7 : decode cX12_bed 7 = .ok (.aload_n 0, 1) := by decide +kernel
theorem dX12_bed_8 : decode cX12_bed 8 = .ok (.iload_n 1, 1) := by decide +kernel
theorem dX12_bed_9 : decode cX12_bed 9 = .ok (.invokevirtual 121, 3) := by decide +kernel
theorem dX12_bed_12 : decode cX12_bed 12 = .ok (.ifCond .ne 11, 3) := by decide +kernel
theorem dX12_bed_15 : decode cX12_bed 15 = .ok (.aload_n 0, 1) := by decide +kernel
theorem dX12_bed_16 : decode cX12_bed 16 = .ok (.iload_n 1, 1) := by decide +kernel
theorem dX12_bed_17 : decode cX12_bed 17 = .ok (.invokevirtual 114, 3) := by decide +kernel
theorem dX12_bed_20 : decode cX12_bed 20 = .ok (.ifCond .eq 8, 3) := by decide +kernel
theorem dX12_bed_23 : decode cX12_bed 23 = .ok (.aload_n 0, 1) := by decide +kernel
theorem dX12_bed_24 : decode cX12_bed 24 = .ok (.invokevirtual 117, 3) := by decide +kernel
theorem dX12_bed_27 : decode cX12_bed 27 = .ok (.ireturn, 1) := by decide +kernel
theorem dX12_bed_28 : decode cX12_bed 28 = .ok (.aload_n 0, 1) := by decide +kernel
theorem dX12_bed_29 : decode cX12_bed 29 = .ok (.getfield 7, 3) := by decide +kernel
theorem dX12_bed_32 : decode cX12_bed 32 = .ok (.iconst 1, 1) := by decide +kernel
theorem dX12_bed_33 : decode cX12_bed 33 = .ok (.iaload, 1) := by decide +kernel
theorem dX12_bed_34 : decode cX12_bed 34 = .ok (.bipush 6, 2) := by decide +kernel
theorem dX12_bed_36 : decode cX12_bed 36 = .ok (.if_icmp .ne 8, 3) := by decide +kernel
theorem dX12_bed_39 : decode cX12_bed 39 = .ok (.aload_n 0, 1) := by decide +kernel
theorem dX12_bed_40 : decode cX12_bed 40 = .ok (.invokevirtual 134, 3) := by decide +kernel
theorem dX12_bed_43 : decode cX12_bed 43 = .ok (.ireturn, 1) := by decide +kernel
theorem dX12_bed_44 : decode cX12_bed 44 = .ok (.aload_n 0, 1) := by decide +kernel
theorem dX12_bed_45 : decode cX12_bed 45 = .ok (.getfield 7, 3) := by decide +kernel
theorem dX12_bed_48 : decode cX12_bed 48 = .ok (.bipush 82, 2) := by decide +kernel
theorem dX12_bed_50 : decode cX12_bed 50 = .ok (.aload_n 0, 1) := by decide +kernel
theorem dX12_bed_51 : decode cX12_bed 51 = .ok (.getfield 7, 3) := by decide +kernel
theorem dX12_bed_54 : decode cX12_bed 54 = .ok (.iconst 1, 1) := by decide +kernel
theorem dX12_bed_55 : decode cX12_bed 55 = .ok (.iaload, 1) := by decide +kernel
theorem dX12_bed_56 : decode cX12_bed 56 = .ok (.iadd, 1) := by decide +kernel
theorem dX12_bed_57 : decode cX12_bed 57 = .ok (.iload_n 1, 1) := by decide +kernel
theorem dX12_bed_58 : decode cX12_bed 58 = .ok (.iastore, 1) := by decide +kernel
theorem dX12_bed_59 : decode cX12_bed 59 = .ok (.aload_n 0, 1) := by decide +kernel
theorem dX12_bed_60 : decode cX12_bed 60 = .ok (.getfield 7, 3) := by decide +kernel
theorem dX12_bed_63 : decode cX12_bed 63 = .ok (.iconst 1, 1) := by decide +kernel
theorem dX12_bed_64 : decode cX12_bed 64 = .ok (.dup2, 1) := by decide +kernel
theorem dX12_bed_65 : decode cX12_bed 65 = .ok (.iaload, 1) := by decide +kernel
theorem dX12_bed_66 : decode cX12_bed 66 = .ok (.iconst 1, 1) := by decide +kernel
theorem dX12_bed_67 : decode cX12_bed 67 = .ok (.iadd, 1) := by decide +kernel
theorem dX12_bed_68 : decode cX12_bed 68 = .ok (.iastore, 1) := by decide +kernel
theorem dX12_bed_69 : decode cX12_bed 69 = .ok (.aload_n 0, 1) := by decide +kernel
theorem dX12_bed_70 : decode cX12_bed 70 = .ok (.getfield 7, 3) := by decide +kernel
theorem dX12_bed_73 : decode cX12_bed 73 = .ok (.iconst 1, 1) := by decide +kernel
theorem dX12_bed_74 : decode cX12_bed 74 = .ok (.iaload, 1) := by decide +kernel
theorem dX12_bed_75 : decode cX12_bed 75 = .ok (.iconst 1, 1) := by decide +kernel
theorem dX12_bed_76 : decode cX12_bed 76 = .ok (.isub, 1) := by decide +kernel
theorem dX12_bed_77 : decode cX12_bed 77 = .ok (.ireturn, 1) := by decide +kernel
theorem dX12_sleeper_0 : decode cX12_sleeper 0 = .ok (.iload_n 1, 1) := by decide +kernel
theorem dX12_sleeper_1 : decode cX12_sleeper 1 = .ok (.i2l, 1) := by decide +kernel
theorem dX12_sleeper_2 : decode cX12_sleeper 2 = .ok (.lconst 1, 1) := by decide +kernel
theorem dX12_sleeper_3 : decode cX12_sleeper 3 = .ok (.ldc2_w 137, 3) := by decide +kernel
theorem dX12_sleeper_6 : decode cX12_sleeper 6 = .ok (.invokestatic 106, 3) := by decide +kernel
theorem dX12_sleeper_9 : decode cX12_sleeper 9 = .ok (.ifCond .eq 56, 3) := by decide +kernel
theorem dX12_sleeper_12 : decode cX12_sleeper 12 = .ok (.iload_n 2, 1) := by decide +kernel
theorem dX12_sleeper_13 : decode cX12_sleeper 13 = .ok (.i2l, 1) := by decide +kernel
theorem dX12_sleeper_14 : decode cX12_sleeper 14 = .ok (.lconst 1, 1) := by decide +kernel
theorem dX12_sleeper_15 : decode cX12_sleeper 15 = .ok (.ldc2_w 132, 3) := by decide +kernel
theorem dX12_sleeper_18 : decode cX12_sleeper 18 = .ok (.invokestatic 106, 3) := by decide +kernel
theorem dX12_sleeper_21 : decode cX12_sleeper 21 = .ok (.ifCond .eq 44, 3) := by decide +kernel
theorem dX12_sleeper_24 : decode cX12_sleeper 24 = .ok (.iload_n 3, 1) := by decide +kernel
theorem dX12_sleeper_25 : decode cX12_sleeper 25 = .ok (.i2l, 1) := by decide +kernel
theorem dX12_sleeper_26 : decode cX12_sleeper 26 = .ok (.lconst 0, 1) := by decide +kernel
theorem dX12_sleeper_27 : decode cX12_sleeper 27 = .ok (.ldc2_w 139, 3) := by decide +kernel
theorem dX12_sleeper_30 : decode cX12_sleeper 30 = .ok (.invokestatic 106, 3) := by decide +kernel
theorem dX12_sleeper_33 : decode cX12_sleeper 33 = .ok (.ifCond .eq 32, 3) := by decide +kernel
theorem dX12_sleeper_36 : decode cX12_sleeper 36 = .ok (.iload 4, 2) := by decide +kernel
theorem dX12_sleeper_38 : decode cX12_sleeper 38 = .ok (.i2l, 1) := by decide +kernel
theorem dX12_sleeper_39 : decode cX12_sleeper 39 = .ok (.iload_n 3, 1) := by decide +kernel
theorem dX12_sleeper_40 : decode cX12_sleeper 40 = .ok (.iconst 1, 1) := by decide +kernel
theorem dX12_sleeper_41 : decode cX12_sleeper 41 = .ok (.iadd, 1) := by decide +kernel
theorem dX12_sleeper_42 : decode cX12_sleeper 42 = .ok (.i2l, 1) := by decide +kernel
theorem dX12_sleeper_43 : decode cX12_sleeper 43 = .ok (.ldc2_w 127, 3) := by decide +kernel
theorem dX12_sleeper_46 : decode cX12_sleeper 46 = .ok (.invokestatic 106, 3) := by decide +kernel
theorem dX12_sleeper_49 : decode cX12_sleeper 49 = .ok (.ifCond .eq 16, 3) := by decide +kernel
theorem dX12_sleeper_52 : decode cX12_sleeper 52 = .ok (.iload 5, 2) := by decide +kernel
theorem dX12_sleeper_54 : decode cX12_sleeper 54 = .ok (.i2l, 1) := by decide +kernel
theorem dX12_sleeper_55 : decode cX12_sleeper 55 = .ok (.lconst 0, 1) := by decide +kernel
theorem dX12_sleeper_56 : decode cX12_sleeper 56 = .ok (.ldc2_w 137, 3) := by decide +kernel
theorem dX12_sleeper_59 : decode cX12_sleeper 59 = .ok (.invokestatic 106, 3) := by decide +kernel
theorem dX12_sleeper_62 : decode cX12_sleeper 62 = .ok (.ifCond .ne 8, 3) := by decide +kernel
theorem dX12_sleeper_65 : decode cX12_sleeper 65 = .ok (.aload_n 0, 1) := by decide +kernel
theorem dX12_sleeper_66 : decode cX12_sleeper 66 = .ok (.invokevirtual 117, 3) := by decide +kernel
theorem dX12_sleeper_69 : decode cX12_sleeper 69 = .ok (.ireturn, 1) := by decide +kernel
theorem dX12_sleeper_70 : decode cX12_sleeper 70 = .ok (.aload_n 0, 1) := by decide +kernel
theorem dX12_sleeper_71 : decode cX12_sleeper 71 = .ok (.getfield 7, 3) := by decide +kernel
theorem dX12_sleeper_74 : decode cX12_sleeper 74 = .ok (.iconst 2, 1) := by decide +kernel
theorem dX12_sleeper_75 : decode cX12_sleeper 75 = .ok (.iaload, 1) := by decide +kernel
theorem dX12_sleeper_76 : decode cX12_sleeper 76 = .ok (.iconst 5, 1) := by decide +kernel
theorem dX12_sleeper_77 : decode cX12_sleeper 77 = .ok (.if_icmp .ne 8, 3) := by decide +kernel
theorem dX12_sleeper_80 : decode cX12_sleeper 80 = .ok (.aload_n 0, 1) := by decide +kernel
theorem dX12_sleeper_81 : decode cX12_sleeper 81 = .ok (.invokevirtual 134, 3) := by decide +kernel
theorem dX12_sleeper_84 : decode cX12_sleeper 84 = .ok (.ireturn, 1) := by decide +kernel
theorem dX12_sleeper_85 : decode cX12_sleeper 85 = .ok (.bipush 90, 2) := by decide +kernel
theorem dX12_sleeper_87 : decode cX12_sleeper 87 = .ok (.bipush 6, 2) := by decide +kernel
theorem dX12_sleeper_89 : decode cX12_sleeper 89 = .ok (.aload_n 0, 1) := by decide +kernel
theorem dX12_sleeper_90 : decode cX12_sleeper 90 = .ok (.getfield 7, 3) := by decide +kernel
theorem dX12_sleeper_93 : decode cX12_sleeper 93 = .ok (.iconst 2, 1) := by decide +kernel
theorem dX12_sleeper_94 : decode cX12_sleeper 94 = .ok (.iaload, 1) := by decide +kernel
theorem dX12_sleeper_95 : decode cX12_sleeper 95 = .ok (.imul, 1) := by decide +kernel
theorem dX12_sleeper_96 : decode cX12_sleeper 96 = .ok (.iadd, 1) := by decide +kernel
theorem dX12_sleeper_97 : decode cX12_sleeper 97 = .ok (.istore 6, 2) := by decide +kernel
theorem dX12_sleeper_99 : decode cX12_sleeper 99 = .ok (.aload_n 0, 1) := by decide +kernel
theorem dX12_sleeper_100 : decode cX12_sleeper 100 = .ok (.getfield 7, 3) := by decide +kernel
theorem dX12_sleeper_103 : decode cX12_sleeper 103 = .ok (.iload 6, 2) := by decide +kernel
theorem dX12_sleeper_105 : decode cX12_sleeper 105 = .ok (.iload_n 1, 1) := by decide +kernel
theorem dX12_sleeper_106 : decode cX12_sleeper 106 = .ok (.iastore, 1) := by decide +kernel
theorem dX12_sleeper_107 : decode cX12_sleeper 107 = .ok (.aload_n 0, 1) := by decide +kernel
theorem dX12_sleeper_108 : decode cX12_sleeper 108 = .ok (.getfield 7, 3) := by decide +kernel
theorem dX12_sleeper_111 : decode cX12_sleeper 111 = .ok (.iload 6, 2) := by decide +kernel
theorem dX12_sleeper_113 : decode cX12_sleeper 113 = .ok (.iconst 1, 1) := by decide +kernel
theorem dX12_sleeper_114 : decode cX12_sleeper 114 = .ok (.iadd, 1) := by decide +kernel
theorem dX12_sleeper_115 : decode cX12_sleeper 115 = .ok (.iload_n 2, 1) := by decide +kernel
theorem dX12_sleeper_116 : decode cX12_sleeper 116 = .ok (.iastore, 1) := by decide +kernel
theorem dX12_sleeper_117 : decode cX12_sleeper 117 = .ok (.aload_n 0, 1) := by decide +kernel
theorem dX12_sleeper_118 : decode cX12_sleeper 118 = .ok (.getfield 7, 3) := by decide +kernel
theorem dX12_sleeper_121 : decode cX12_sleeper 121 = .ok (.iload 6, 2) := by decide +kernel
theorem dX12_sleeper_123 : decode cX12_sleeper 123 = .ok (.iconst 2, 1) := by decide +kernel
theorem dX12_sleeper_124 : decode cX12_sleeper 124 = .ok (.iadd, 1) := by decide +kernel
theorem dX12_sleeper_125 : decode cX12_sleeper 125 = .ok (.iload_n 3, 1) := by decide +kernel
theorem dX12_sleeper_126 : decode cX12_sleeper 126 = .ok (.iastore, 1) := by decide +kernel
theorem dX12_sleeper_127 : decode cX12_sleeper 127 = .ok (.aload_n 0, 1) := by decide +kernel
theorem dX12_sleeper_128 : decode cX12_sleeper 128 = .ok (.getfield 7, 3) := by decide +kernel
theorem dX12_sleeper_131 : decode cX12_sleeper 131 = .ok (.iload 6, 2) := by decide +kernel
theorem dX12_sleeper_133 : decode cX12_sleeper 133 = .ok (.iconst 3, 1) := by decide +kernel
theorem dX12_sleeper_134 : decode cX12_sleeper 134 = .ok (.iadd, 1) := by decide +kernel
theorem dX12_sleeper_135 : decode cX12_sleeper 135 = .ok (.iload 4, 2) := by decide +kernel
theorem dX12_sleeper_137 : decode cX12_sleeper 137 = .ok (.iastore, 1) := by decide +kernel
theorem dX12_sleeper_138 : decode cX12_sleeper 138 = .ok (.aload_n 0, 1) := by decide +kernel
theorem dX12_sleeper_139 : decode cX12_sleeper 139 = .ok (.getfield 7, 3) := by decide +kernel
theorem dX12_sleeper_142 : decode cX12_sleeper 142 = .ok (.iload 6, 2) := by decide +kernel
theorem dX12_sleeper_144 : decode cX12_sleeper 144 = .ok (.iconst 4, 1) := by decide +kernel
theorem dX12_sleeper_145 : decode cX12_sleeper 145 = .ok (.iadd, 1) := by decide +kernel
theorem dX12_sleeper_146 : decode cX12_sleeper 146 = .ok (.iload 5, 2) := by decide +kernel
theorem dX12_sleeper_148 : decode cX12_sleeper 148 = .ok (.iastore, 1) := by decide +kernel
theorem dX12_sleeper_149 : decode cX12_sleeper 149 = .ok (.aload_n 0, 1) := by decide +kernel
theorem dX12_sleeper_150 : decode cX12_sleeper 150 = .ok (.getfield 7, 3) := by decide +kernel
theorem dX12_sleeper_153 : decode cX12_sleeper 153 = .ok (.iload 6, 2) := by decide +kernel
theorem dX12_sleeper_155 : decode cX12_sleeper 155 = .ok (.iconst 5, 1) := by decide +kernel
theorem dX12_sleeper_156 : decode cX12_sleeper 156 = .ok (.iadd, 1) := by decide +kernel
theorem dX12_sleeper_157 : decode cX12_sleeper 157 = .ok (.iconst (-1), 1) := by decide +kernel
theorem dX12_sleeper_158 : decode cX12_sleeper 158 = .ok (.iastore, 1) := by decide +kernel
theorem dX12_sleeper_159 : decode cX12_sleeper 159 = .ok (.aload_n 0, 1) := by decide +kernel
theorem dX12_sleeper_160 : decode cX12_sleeper 160 = .ok (.getfield 7, 3) := by decide +kernel
theorem dX12_sleeper_163 : decode cX12_sleeper 163 = .ok (.iconst 2, 1) := by decide +kernel
theorem dX12_sleeper_164 : decode cX12_sleeper 164 = .ok (.dup2, 1) := by decide +kernel
theorem dX12_sleeper_165 : decode cX12_sleeper 165 = .ok (.iaload, 1) := by decide +kernel
theorem dX12_sleeper_166 : decode cX12_sleeper 166 = .ok (.iconst 1, 1) := by decide +kernel
theorem dX12_sleeper_167 : decode cX12_sleeper 167 = .ok (.iadd, 1) := by decide +kernel
theorem dX12_sleeper_168 : decode cX12_sleeper 168 = .ok (.iastore, 1) := by decide +kernel
theorem dX12_sleeper_169 : decode cX12_sleeper 169 = .ok (.aload_n 0, 1) := by decide +kernel
theorem dX12_sleeper_170 : decode cX12_sleeper 170 = .ok (.getfield 7, 3) := by decide +kernel
theorem dX12_sleeper_173 : decode cX12_sleeper 173 = .ok (.iconst 2, 1) := by decide +kernel
theorem dX12_sleeper_174 : decode cX12_sleeper 174 = .ok (.iaload, 1) := by decide +kernel
theorem dX12_sleeper_175 : decode cX12_sleeper 175 = .ok (.iconst 1, 1) := by decide +kernel
theorem dX12_sleeper_176 : decode cX12_sleeper 176 = .ok (.isub, 1) := by decide +kernel
theorem dX12_sleeper_177 : decode cX12_sleeper 177 = .ok (.ireturn, 1) := by decide +kernel
theorem dX12_lie_0 : decode cX12_lie 0 = .ok (.aload_n 0, 1) := by decide +kernel
theorem dX12_lie_1 : decode cX12_lie 1 = .ok (.iload_n 1, 1) := by decide +kernel
theorem dX12_lie_2 : decode cX12_lie 2 = .ok (.invokevirtual 141, 3) := by decide +kernel
theorem dX12_lie_5 : decode cX12_lie 5 = .ok (.ifCond .eq 16, 3) := by decide +kernel
theorem dX12_lie_8 : decode cX12_lie 8 = .ok (.iload_n 2, 1) := by decide +kernel
theorem dX12_lie_9 : decode cX12_lie 9 = .ok (.iconst (-1), 1) := by decide +kernel
theorem dX12_lie_10 : decode cX12_lie 10 = .ok (.if_icmp .eq 19, 3) := by decide +kernel
theorem dX12_lie_13 : decode cX12_lie 13 = .ok (.aload_n 0, 1) := by decide +kernel
theorem dX12_lie_14 : decode cX12_lie 14 = .ok (.iload_n 2, 1) := by decide +kernel
theorem dX12_lie_15 : decode cX12_lie 15 = .ok (.invokevirtual 144, 3) := by decide +kernel
theorem dX12_lie_18 : decode cX12_lie 18 = .ok (.ifCond .ne 11, 3) := by decide +kernel
theorem dX12_lie_21 : decode cX12_lie 21 = .ok (.aload_n 0, 1) := by decide +kernel
theorem dX12_lie_22 : decode cX12_lie 22 = .ok (.iconst 0, 1) := by decide +kernel
theorem dX12_lie_23 : decode cX12_lie 23 = .ok (.bipush (-10), 2) := by decide +kernel
theorem dX12_lie_25 : decode cX12_lie 25 = .ok (.invokevirtual 100, 3) := by decide +kernel
theorem dX12_lie_28 : decode cX12_lie 28 = .ok (.ireturn, 1) := by decide +kernel
theorem dX12_lie_29 : decode cX12_lie 29 = .ok (.iconst 0, 1) := by decide +kernel
theorem dX12_lie_30 : decode cX12_lie 30 = .ok (.istore_n 3, 1) := by decide +kernel
theorem dX12_lie_31 : decode cX12_lie 31 = .ok (.iload_n 3, 1) := by decide +kernel
theorem dX12_lie_32 : decode cX12_lie 32 = .ok (.aload_n 0, 1) := by decide +kernel
theorem dX12_lie_33 : decode cX12_lie 33 = .ok (.getfield 7, 3) := by decide +kernel
theorem dX12_lie_36 : decode cX12_lie 36 = .ok (.iconst 2, 1) := by decide +kernel
theorem dX12_lie_37 : decode cX12_lie 37 = .ok (.iaload, 1) := by decide +kernel
theorem dX12_lie_38 : decode cX12_lie 38 = .ok (.if_icmp .ge 37, 3) := by decide +kernel
theorem dX12_lie_41 : decode cX12_lie 41 = .ok (.iload_n 2, 1) := by decide +kernel
theorem dX12_lie_42 : decode cX12_lie 42 = .ok (.iconst (-1), 1) := by decide +kernel
theorem dX12_lie_43 : decode cX12_lie 43 = .ok (.if_icmp .eq 32, 3) := by decide +kernel
theorem dX12_lie_46 : decode cX12_lie 46 = .ok (.iload_n 3, 1) := by decide +kernel
theorem dX12_lie_47 : decode cX12_lie 47 = .ok (.iload_n 1, 1) := by decide +kernel
theorem dX12_lie_48 : decode cX12_lie 48 = .ok (.if_icmp .eq 21, 3) := by decide +kernel
theorem dX12_lie_51 : decode cX12_lie 51 = .ok (.aload_n 0, 1) := by decide +kernel
theorem dX12_lie_52 : decode cX12_lie 52 = .ok (.iload_n 3, 1) := by decide +kernel
theorem dX12_lie_53 : decode cX12_lie 53 = .ok (.iconst 5, 1) := by decide +kernel
theorem dX12_lie_54 : decode cX12_lie 54 = .ok (.invokevirtual 147, 3) := by decide +kernel
theorem dX12_lie_57 : decode cX12_lie 57 = .ok (.iload_n 2, 1) := by decide +kernel
theorem dX12_lie_58 : decode cX12_lie 58 = .ok (.if_icmp .ne 11, 3) := by decide +kernel
theorem dX12_lie_61 : decode cX12_lie 61 = .ok (.aload_n 0, 1) := by decide +kernel
theorem dX12_lie_62 : decode cX12_lie 62 = .ok (.iconst 1, 1) := by decide +kernel
theorem dX12_lie_63 : decode cX12_lie 63 = .ok (.bipush (-20), 2) := by decide +kernel
theorem dX12_lie_65 : decode cX12_lie 65 = .ok (.invokevirtual 100, 3) := by decide +kernel
theorem dX12_lie_68 : decode cX12_lie 68 = .ok (.ireturn, 1) := by decide +kernel
theorem dX12_lie_69 : decode cX12_lie 69 = .ok (.iinc 3 1, 3) := by decide +kernel
theorem dX12_lie_72 : decode cX12_lie 72 = .ok (.goto (-41), 3) := by decide +kernel
theorem dX12_lie_75 : decode cX12_lie 75 = .ok (.aload_n 0, 1) := by decide +kernel
theorem dX12_lie_76 : decode cX12_lie 76 = .ok (.bipush 90, 2) := by decide +kernel
theorem dX12_lie_78 : decode cX12_lie 78 = .ok (.bipush 6, 2) := by decide +kernel
theorem dX12_lie_80 : decode cX12_lie 80 = .ok (.iload_n 1, 1) := by decide +kernel
theorem dX12_lie_81 : decode cX12_lie 81 = .ok (.imul, 1) := by decide +kernel
theorem dX12_lie_82 : decode cX12_lie 82 = .ok (.iadd, 1) := by decide +kernel
theorem dX12_lie_83 : decode cX12_lie 83 = .ok (.iconst 5, 1) := by decide +kernel
theorem dX12_lie_84 : decode cX12_lie 84 = .ok (.iadd, 1) := by decide +kernel
theorem dX12_lie_85 : decode cX12_lie 85 = .ok (.iload_n 2, 1) := by decide +kernel
theorem dX12_lie_86 : decode cX12_lie 86 = .ok (.invokevirtual 129, 3) := by decide +kernel
theorem dX12_lie_89 : decode cX12_lie 89 = .ok (.ireturn, 1) := by decide +kernel
theorem dX12_sound_0 : decode cX12_sound 0 = .ok (.iload_n 1, 1) := by decide +kernel
theorem dX12_sound_1 : decode cX12_sound 1 = .ok (.ifCond .ne 10, 3) := by decide +kernel
theorem dX12_sound_4 : decode cX12_sound 4 = .ok (.iload_n 2, 1) := by decide +kernel
theorem dX12_sound_5 : decode cX12_sound 5 = .ok (.invokestatic 110, 3) := by decide +kernel
theorem dX12_sound_8 : decode cX12_sound 8 = .ok (.goto 25, 3) := by decide +kernel
theorem dX12_sound_11 : decode cX12_sound 11 = .ok (.iload_n 1, 1) := by decide +kernel
theorem dX12_sound_12 : decode cX12_sound 12 = .ok (.iconst 4, 1) := by decide +kernel
theorem dX12_sound_13 : decode cX12_sound 13 = .ok (.if_icmp .ne 15, 3) := by decide +kernel
theorem dX12_sound_16 : decode cX12_sound 16 = .ok (.iload_n 2, 1) := by decide +kernel
theorem dX12_sound_17 : decode cX12_sound 17 = .ok (.ifCond .ne 7, 3) := by decide +kernel
theorem dX12_sound_20 : decode cX12_sound 20 = .ok (.iconst 1, 1) := by decide +kernel
theorem dX12_sound_21 : decode cX12_sound 21 = .ok (.goto 12, 3) := by decide +kernel
theorem dX12_sound_24 : decode cX12_sound 24 = .ok (.iconst 0, 1) := by decide +kernel
theorem dX12_sound_25 : decode cX12_sound 25 = .ok (.goto 8, 3) := by decide +kernel
theorem dX12_sound_28 : decode cX12_sound 28 = .ok (.aload_n 0, 1) := by decide +kernel
theorem dX12_sound_29 : decode cX12_sound 29 = .ok (.iload_n 2, 1) := by decide +kernel
theorem dX12_sound_30 : decode cX12_sound 30 = .ok (.invokevirtual 141, 3) := by decide +kernel
theorem dX12_sound_33 : decode cX12_sound 33 = .ok (.istore 6, 2) := by decide +kernel
theorem dX12_sound_35 : decode cX12_sound 35 = .ok (.iload_n 1, 1) := by decide +kernel
theorem dX12_sound_36 : decode cX12_sound 36 = .ok (.i2l, 1) := by decide +kernel
theorem dX12_sound_37 : decode cX12_sound 37 = .ok (.lconst 0, 1) := by decide +kernel
theorem dX12_sound_38 : decode cX12_sound 38 = .ok (.ldc2_w 150, 3) := by decide +kernel
theorem dX12_sound_41 : decode cX12_sound 41 = .ok (.invokestatic 106, 3) := by decide +kernel
theorem dX12_sound_44 : decode cX12_sound 44 = .ok (.ifCond .eq 46, 3) := by decide +kernel
theorem dX12_sound_47 : decode cX12_sound 47 = .ok (.iload 6, 2) := by decide +kernel
theorem dX12_sound_49 : decode cX12_sound 49 = .ok (.ifCond .eq 41, 3) := by decide +kernel
theorem dX12_sound_52 : decode cX12_sound 52 = .ok (.iload 4, 2) := by decide +kernel
theorem dX12_sound_54 : decode cX12_sound 54 = .ok (.i2l, 1) := by decide +kernel
theorem dX12_sound_55 : decode cX12_sound 55 = .ok (.lconst 0, 1) := by decide +kernel
theorem dX12_sound_56 : decode cX12_sound 56 = .ok (.ldc2_w 139, 3) := by decide +kernel
theorem dX12_sound_59 : decode cX12_sound 59 = .ok (.invokestatic 106, 3) := by decide +kernel
theorem dX12_sound_62 : decode cX12_sound 62 = .ok (.ifCond .eq 28, 3) := by decide +kernel
theorem dX12_sound_65 : decode cX12_sound 65 = .ok (.iload_n 3, 1) := by decide +kernel
theorem dX12_sound_66 : decode cX12_sound 66 = .ok (.i2l, 1) := by decide +kernel
theorem dX12_sound_67 : decode cX12_sound 67 = .ok (.lconst 0, 1) := by decide +kernel
theorem dX12_sound_68 : decode cX12_sound 68 = .ok (.iload 4, 2) := by decide +kernel
theorem dX12_sound_70 : decode cX12_sound 70 = .ok (.i2l, 1) := by decide +kernel
theorem dX12_sound_71 : decode cX12_sound 71 = .ok (.invokestatic 106, 3) := by decide +kernel
theorem dX12_sound_74 : decode cX12_sound 74 = .ok (.ifCond .eq 16, 3) := by decide +kernel
theorem dX12_sound_77 : decode cX12_sound 77 = .ok (.iload 5, 2) := by decide +kernel
theorem dX12_sound_79 : decode cX12_sound 79 = .ok (.i2l, 1) := by decide +kernel
theorem dX12_sound_80 : decode cX12_sound 80 = .ok (.lconst 0, 1) := by decide +kernel
theorem dX12_sound_81 : decode cX12_sound 81 = .ok (.ldc2_w 137, 3) := by decide +kernel
theorem dX12_sound_84 : decode cX12_sound 84 = .ok (.invokestatic 106, 3) := by decide +kernel
theorem dX12_sound_87 : decode cX12_sound 87 = .ok (.ifCond .ne 8, 3) := by decide +kernel
theorem dX12_sound_90 : decode cX12_sound 90 = .ok (.aload_n 0, 1) := by decide +kernel
theorem dX12_sound_91 : decode cX12_sound 91 = .ok (.invokevirtual 117, 3) := by decide +kernel
theorem dX12_sound_94 : decode cX12_sound 94 = .ok (.ireturn, 1) := by decide +kernel
theorem dX12_sound_95 : decode cX12_sound 95 = .ok (.aload_n 0, 1) := by decide +kernel
theorem dX12_sound_96 : decode cX12_sound 96 = .ok (.getfield 7, 3) := by decide +kernel
theorem dX12_sound_99 : decode cX12_sound 99 = .ok (.iconst 3, 1) := by decide +kernel
theorem dX12_sound_100 : decode cX12_sound 100 = .ok (.iaload, 1) := by decide +kernel
theorem dX12_sound_101 : decode cX12_sound 101 = .ok (.bipush 8, 2) := by decide +kernel
theorem dX12_sound_103 : decode cX12_sound 103 = .ok (.if_icmp .ne 8, 3) := by decide +kernel
theorem dX12_sound_106 : decode cX12_sound 106 = .ok (.aload_n 0, 1) := by decide +kernel
theorem dX12_sound_107 : decode cX12_sound 107 = .ok (.invokevirtual 134, 3) := by decide +kernel
theorem dX12_sound_110 : decode cX12_sound 110 = .ok (.ireturn, 1) := by decide +kernel
theorem dX12_sound_111 : decode cX12_sound 111 = .ok (.bipush 120, 2) := by decide +kernel
theorem dX12_sound_113 : decode cX12_sound 113 = .ok (.iconst 5, 1) := by decide +kernel
theorem dX12_sound_114 : decode cX12_sound 114 = .ok (.aload_n 0, 1) := by decide +kernel
theorem dX12_sound_115 : decode cX12_sound 115 = .ok (.getfield 7, 3) := by decide +kernel
theorem dX12_sound_118 : decode cX12_sound 118 = .ok (.iconst 3, 1) := by decide +kernel
theorem dX12_sound_119 : decode cX12_sound 119 = .ok (.iaload, 1) := by decide +kernel
theorem dX12_sound_120 : decode cX12_sound 120 = .ok (.imul, 1) := by decide +kernel
theorem dX12_sound_121 : decode cX12_sound 121 = .ok (.iadd, 1) := by decide +kernel
theorem dX12_sound_122 : decode cX12_sound 122 = .ok (.istore 7, 2) := by decide +kernel
theorem dX12_sound_124 : decode cX12_sound 124 = .ok (.aload_n 0, 1) := by decide +kernel
theorem dX12_sound_125 : decode cX12_sound 125 = .ok (.getfield 7, 3) := by decide +kernel
theorem dX12_sound_128 : decode cX12_sound 128 = .ok (.iload 7, 2) := by decide +kernel
theorem dX12_sound_130 : decode cX12_sound 130 = .ok (.iload_n 1, 1) := by decide +kernel
theorem dX12_sound_131 : decode cX12_sound 131 = .ok (.iastore, 1) := by decide +kernel
theorem dX12_sound_132 : decode cX12_sound 132 = .ok (.aload_n 0, 1) := by decide +kernel
theorem dX12_sound_133 : decode cX12_sound 133 = .ok (.getfield 7, 3) := by decide +kernel
theorem dX12_sound_136 : decode cX12_sound 136 = .ok (.iload 7, 2) := by decide +kernel
theorem dX12_sound_138 : decode cX12_sound 138 = .ok (.iconst 1, 1) := by decide +kernel
theorem dX12_sound_139 : decode cX12_sound 139 = .ok (.iadd, 1) := by decide +kernel
theorem dX12_sound_140 : decode cX12_sound 140 = .ok (.iload_n 2, 1) := by decide +kernel
theorem dX12_sound_141 : decode cX12_sound 141 = .ok (.iastore, 1) := by decide +kernel
theorem dX12_sound_142 : decode cX12_sound 142 = .ok (.aload_n 0, 1) := by decide +kernel
theorem dX12_sound_143 : decode cX12_sound 143 = .ok (.getfield 7, 3) := by decide +kernel
theorem dX12_sound_146 : decode cX12_sound 146 = .ok (.iload 7, 2) := by decide +kernel
theorem dX12_sound_148 : decode cX12_sound 148 = .ok (.iconst 2, 1) := by decide +kernel
theorem dX12_sound_149 : decode cX12_sound 149 = .ok (.iadd, 1) := by decide +kernel
theorem dX12_sound_150 : decode cX12_sound 150 = .ok (.iload_n 3, 1) := by decide +kernel
theorem dX12_sound_151 : decode cX12_sound 151 = .ok (.iastore, 1) := by decide +kernel
theorem dX12_sound_152 : decode cX12_sound 152 = .ok (.aload_n 0, 1) := by decide +kernel
theorem dX12_sound_153 : decode cX12_sound 153 = .ok (.getfield 7, 3) := by decide +kernel
theorem dX12_sound_156 : decode cX12_sound 156 = .ok (.iload 7, 2) := by decide +kernel
theorem dX12_sound_158 : decode cX12_sound 158 = .ok (.iconst 3, 1) := by decide +kernel
theorem dX12_sound_159 : decode cX12_sound 159 = .ok (.iadd, 1) := by decide +kernel
theorem dX12_sound_160 : decode cX12_sound 160 = .ok (.iload 4, 2) := by decide +kernel
theorem dX12_sound_162 : decode cX12_sound 162 = .ok (.iastore, 1) := by decide +kernel
theorem dX12_sound_163 : decode cX12_sound 163 = .ok (.aload_n 0, 1) := by decide +kernel
theorem dX12_sound_164 : decode cX12_sound 164 = .ok (.getfield 7, 3) := by decide +kernel
theorem dX12_sound_167 : decode cX12_sound 167 = .ok (.iload 7, 2) := by decide +kernel
theorem dX12_sound_169 : decode cX12_sound 169 = .ok (.iconst 4, 1) := by decide +kernel
theorem dX12_sound_170 : decode cX12_sound 170 = .ok (.iadd, 1) := by decide +kernel
theorem dX12_sound_171 : decode cX12_sound 171 = .ok (.iload 5, 2) := by decide +kernel
theorem dX12_sound_173 : decode cX12_sound 173 = .ok (.iastore, 1) := by decide +kernel
theorem dX12_sound_174 : decode cX12_sound 174 = .ok (.aload_n 0, 1) := by decide +kernel
theorem dX12_sound_175 : decode cX12_sound 175 = .ok (.getfield 7, 3) := by decide +kernel
theorem dX12_sound_178 : decode cX12_sound 178 = .ok (.iconst 3, 1) := by decide +kernel
theorem dX12_sound_179 : decode cX12_sound 179 = .ok (.dup2, 1) := by decide +kernel
theorem dX12_sound_180 : decode cX12_sound 180 = .ok (.iaload, 1) := by decide +kernel
theorem dX12_sound_181 : decode cX12_sound 181 = .ok (.iconst 1, 1) := by decide +kernel
theorem dX12_sound_182 : decode cX12_sound 182 = .ok (.iadd, 1) := by decide +kernel
theorem dX12_sound_183 : decode cX12_sound 183 = .ok (.iastore, 1) := by decide +kernel
theorem dX12_sound_184 : decode cX12_sound 184 = .ok (.aload_n 0, 1) := by decide +kernel
theorem dX12_sound_185 : decode cX12_sound 185 = .ok (.getfield 7, 3) := by decide +kernel
theorem dX12_sound_188 : decode cX12_sound 188 = .ok (.iconst 3, 1) := by decide +kernel
theorem dX12_sound_189 : decode cX12_sound 189 = .ok (.iaload, 1) := by decide +kernel
theorem dX12_sound_190 : decode cX12_sound 190 = .ok (.iconst 1, 1) := by decide +kernel
theorem dX12_sound_191 : decode cX12_sound 191 = .ok (.isub, 1) := by decide +kernel
theorem dX12_sound_192 : decode cX12_sound 192 = .ok (.ireturn, 1) := by decide +kernel
theorem dX12_still_0 : decode cX12_still 0 = .ok (.aload_n 0, 1) := by decide +kernel
theorem dX12_still_1 : decode cX12_still 1 = .ok (.getfield 7, 3) := by decide +kernel
theorem dX12_still_4 : decode cX12_still 4 = .ok (.iconst 3, 1) := by decide +kernel
theorem dX12_still_5 : decode cX12_still 5 = .ok (.iaload, 1) := by decide +kernel
theorem dX12_still_6 : decode cX12_still 6 = .ok (.ifCond .ne 8, 3) := by decide +kernel
theorem dX12_still_9 : decode cX12_still 9 = .ok (.aload_n 0, 1) := by decide +kernel
theorem dX12_still_10 : decode cX12_still 10 = .ok (.invokevirtual 124, 3) := by decide +kernel
theorem dX12_still_13 : decode cX12_still 13 = .ok (.ireturn, 1) := by decide +kernel
theorem dX12_still_14 : decode cX12_still 14 = .ok (.aload_n 0, 1) := by decide +kernel
theorem dX12_still_15 : decode cX12_still 15 = .ok (.getfield 7, 3) := by decide +kernel
theorem dX12_still_18 : decode cX12_still 18 = .ok (.iconst 3, 1) := by decide +kernel
theorem dX12_still_19 : decode cX12_still 19 = .ok (.dup2, 1) := by decide +kernel
theorem dX12_still_20 : decode cX12_still 20 = .ok (.iaload, 1) := by decide +kernel
theorem dX12_still_21 : decode cX12_still 21 = .ok (.iconst 1, 1) := by decide +kernel
theorem dX12_still_22 : decode cX12_still 22 = .ok (.isub, 1) := by decide +kernel
theorem dX12_still_23 : decode cX12_still 23 = .ok (.iastore, 1) := by decide +kernel
theorem dX12_still_24 : decode cX12_still 24 = .ok (.iconst 1, 1) := by decide +kernel
theorem dX12_still_25 : decode cX12_still 25 = .ok (.ireturn, 1) := by decide +kernel
theorem dX12_type_0 : decode cX12_type 0 = .ok (.iload_n 3, 1) := by decide +kernel
theorem dX12_type_1 : decode cX12_type 1 = .ok (.i2l, 1) := by decide +kernel
theorem dX12_type_2 : decode cX12_type 2 = .ok (.lconst 1, 1) := by decide +kernel
theorem dX12_type_3 : decode cX12_type 3 = .ok (.ldc2_w 152, 3) := by decide +kernel
theorem dX12_type_6 : decode cX12_type 6 = .ok (.invokestatic 106, 3) := by decide +kernel
theorem dX12_type_9 : decode cX12_type 9 = .ok (.ifCond .ne 8, 3) := by decide +kernel
theorem dX12_type_12 : decode cX12_type 12 = .ok (.aload_n 0, 1) := by decide +kernel
theorem dX12_type_13 : decode cX12_type 13 = .ok (.invokevirtual 117, 3) := by decide +kernel
theorem dX12_type_16 : decode cX12_type 16 = .ok (.ireturn, 1) := by decide +kernel
theorem dX12_type_17 : decode cX12_type 17 = .ok (.aload_n 0, 1) := by decide +kernel
theorem dX12_type_18 : decode cX12_type 18 = .ok (.getfield 154, 3) := by decide +kernel
theorem dX12_type_21 : decode cX12_type 21 = .ok (.iload_n 3, 1) := by decide +kernel
theorem dX12_type_22 : decode cX12_type 22 = .ok (.iadd, 1) := by decide +kernel
theorem dX12_type_23 : decode cX12_type 23 = .ok (.sipush 300, 3) := by decide +kernel
theorem dX12_type_26 : decode cX12_type 26 = .ok (.if_icmp .le 8, 3) := by decide +kernel
theorem dX12_type_29 : decode cX12_type 29 = .ok (.aload_n 0, 1) := by decide +kernel
theorem dX12_type_30 : decode cX12_type 30 = .ok (.invokevirtual 134, 3) := by decide +kernel
theorem dX12_type_33 : decode cX12_type 33 = .ok (.ireturn, 1) := by decide +kernel
theorem dX12_type_34 : decode cX12_type 34 = .ok (.iload_n 3, 1) := by decide +kernel
theorem dX12_type_35 : decode cX12_type 35 = .ok (.iconst 1, 1) := by decide +kernel
theorem dX12_type_36 : decode cX12_type 36 = .ok (.isub, 1) := by decide +kernel
theorem dX12_type_37 : decode cX12_type 37 = .ok (.istore 4, 2) := by decide +kernel
theorem dX12_type_39 : decode cX12_type 39 = .ok (.iload 4, 2) := by decide +kernel
theorem dX12_type_41 : decode cX12_type 41 = .ok (.ifCond .lt 40, 3) := by decide +kernel
theorem dX12_type_44 : decode cX12_type 44 = .ok (.aload_n 0, 1) := by decide +kernel
theorem dX12_type_45 : decode cX12_type 45 = .ok (.getfield 26, 3) := by decide +kernel
theorem dX12_type_48 : decode cX12_type 48 = .ok (.aload_n 0, 1) := by decide +kernel
theorem dX12_type_49 : decode cX12_type 49 = .ok (.getfield 154, 3) := by decide +kernel
theorem dX12_type_52 : decode cX12_type 52 = .ok (.lload_n 1, 1) := by decide +kernel
theorem dX12_type_53 : decode cX12_type 53 = .ok (.bipush 8, 2) := by decide +kernel
theorem dX12_type_55 : decode cX12_type 55 = .ok (.iload 4, 2) := by decide +kernel
theorem dX12_type_57 : decode cX12_type 57 = .ok (.imul, 1) := by decide +kernel
theorem dX12_type_58 : decode cX12_type 58 = .ok (.lshr, 1) := by decide +kernel
theorem dX12_type_59 : decode cX12_type 59 = .ok (.ldc2_w 157, 3) := by decide +kernel
theorem dX12_type_62 : decode cX12_type 62 = .ok (.land, 1) := by decide +kernel
theorem dX12_type_63 : decode cX12_type 63 = .ok (.l2i, 1) := by decide +kernel
theorem dX12_type_64 : decode cX12_type 64 = .ok (.iastore, 1) := by decide +kernel
theorem dX12_type_65 : decode cX12_type 65 = .ok (.aload_n 0, 1) := by decide +kernel
theorem dX12_type_66 : decode cX12_type 66 = .ok (.dup, 1) := by decide +kernel
theorem dX12_type_67 : decode cX12_type 67 = .ok (.getfield 154, 3) := by decide +kernel
theorem dX12_type_70 : decode cX12_type 70 = .ok (.iconst 1, 1) := by decide +kernel
theorem dX12_type_71 : decode cX12_type 71 = .ok (.iadd, 1) := by decide +kernel
theorem dX12_type_72 : decode cX12_type 72 = .ok (.putfield 154, 3) := by decide +kernel
theorem dX12_type_75 : decode cX12_type 75 = .ok (.iinc 4 (-1), 3) := by decide +kernel
theorem dX12_type_78 : decode cX12_type 78 = .ok (.goto (-39), 3) := by decide +kernel
theorem dX12_type_81 : decode cX12_type 81 = .ok (.aload_n 0, 1) := by decide +kernel
theorem dX12_type_82 : decode cX12_type 82 = .ok (.getfield 154, 3) := by decide +kernel
theorem dX12_type_85 : decode cX12_type 85 = .ok (.ireturn, 1) := by decide +kernel
theorem dX12_clear_0 : decode cX12_clear 0 = .ok (.aload_n 0, 1) := by decide +kernel
theorem dX12_clear_1 : decode cX12_clear 1 = .ok (.getfield 154, 3) := by decide +kernel
theorem dX12_clear_4 : decode cX12_clear 4 = .ok (.istore_n 1, 1) := by decide +kernel
theorem dX12_clear_5 : decode cX12_clear 5 = .ok (.aload_n 0, 1) := by decide +kernel
theorem dX12_clear_6 : decode cX12_clear 6 = .ok (.iconst 0, 1) := by decide +kernel
theorem dX12_clear_7 : decode cX12_clear 7 = .ok (.putfield 154, 3) := by decide +kernel
theorem dX12_clear_10 : decode cX12_clear 10 = .ok (.iload_n 1, 1) := by decide +kernel
theorem dX12_clear_11 : decode cX12_clear 11 = .ok (.ireturn, 1) := by decide +kernel
theorem dX12_isAt_0 : decode cX12_isAt 0 = .ok (.aload_n 0, 1) := by decide +kernel
theorem dX12_isAt_1 : decode cX12_isAt 1 = .ok (.getfield 159, 3) := by decide +kernel
theorem dX12_isAt_4 : decode cX12_isAt 4 = .ok (.aload_n 0, 1) := by decide +kernel
theorem dX12_isAt_5 : decode cX12_isAt 5 = .ok (.getfield 154, 3) := by decide +kernel
theorem dX12_isAt_8 : decode cX12_isAt 8 = .ok (.if_icmp .ge 27, 3) := by decide +kernel
theorem dX12_isAt_11 : decode cX12_isAt 11 = .ok (.aload_n 0, 1) := by decide +kernel
theorem dX12_isAt_12 : decode cX12_isAt 12 = .ok (.getfield 26, 3) := by decide +kernel
theorem dX12_isAt_15 : decode cX12_isAt 15 = .ok (.aload_n 0, 1) := by decide +kernel
theorem dX12_isAt_16 : decode cX12_isAt 16 = .ok (.getfield 159, 3) := by decide +kernel
theorem dX12_isAt_19 : decode cX12_isAt 19 = .ok (.iaload, 1) := by decide +kernel
theorem dX12_isAt_20 : decode cX12_isAt 20 = .ok (.i2l, 1) := by decide +kernel
theorem dX12_isAt_21 : decode cX12_isAt 21 = .ok (.iload_n 1, 1) := by decide +kernel
theorem dX12_isAt_22 : decode cX12_isAt 22 = .ok (.i2l, 1) := by decide +kernel
theorem dX12_isAt_23 : decode cX12_isAt 23 = .ok (.iload_n 2, 1) := by decide +kernel
theorem dX12_isAt_24 : decode cX12_isAt 24 = .ok (.i2l, 1) := by decide +kernel
theorem dX12_isAt_25 : decode cX12_isAt 25 = .ok (.invokestatic 106, 3) := by decide +kernel
theorem dX12_isAt_28 : decode cX12_isAt 28 = .ok (.ifCond .eq 7, 3) := by decide +kernel
theorem dX12_isAt_31 : decode cX12_isAt 31 = .ok (.iconst 1, 1) := by decide +kernel
theorem dX12_isAt_32 : decode cX12_isAt 32 = .ok (.goto 4, 3) := by decide +kernel
theorem dX12_isAt_35 : decode cX12_isAt 35 = .ok (.iconst 0, 1) := by decide +kernel
theorem dX12_isAt_36 : decode cX12_isAt 36 = .ok (.ireturn, 1) := by decide +kernel
theorem dX12_wordOf_0 : decode cX12_wordOf 0 = .ok (.lload_n 0, 1) := by decide +kernel
theorem dX12_wordOf_1 : decode cX12_wordOf 1 = .ok (.ldc2_w 162, 3) := by decide +kernel
theorem dX12_wordOf_4 : decode cX12_wordOf 4 = .ok (.lcmp, 1) := by decide +kernel
theorem dX12_wordOf_5 : decode cX12_wordOf 5 = .ok (.ifCond .ne 8, 3) := by decide +kernel
theorem dX12_wordOf_8 : decode cX12_wordOf 8 = .ok (.bipush 10, 2) := by decide +kernel
theorem dX12_wordOf_10 : decode cX12_wordOf 10 = .ok (.goto 56, 3) := by decide +kernel
theorem dX12_wordOf_13 : decode cX12_wordOf 13 = .ok (.lload_n 0, 1) := by decide +kernel
theorem dX12_wordOf_14 : decode cX12_wordOf 14 = .ok (.ldc2_w 164, 3) := by decide +kernel
theorem dX12_wordOf_17 : decode cX12_wordOf 17 = .ok (.lcmp, 1) := by decide +kernel
theorem dX12_wordOf_18 : decode cX12_wordOf 18 = .ok (.ifCond .ne 8, 3) := by decide +kernel
theorem dX12_wordOf_21 : decode cX12_wordOf 21 = .ok (.bipush 11, 2) := by decide +kernel
theorem dX12_wordOf_23 : decode cX12_wordOf 23 = .ok (.goto 43, 3) := by decide +kernel
theorem dX12_wordOf_26 : decode cX12_wordOf 26 = .ok (.lload_n 0, 1) := by decide +kernel
theorem dX12_wordOf_27 : decode cX12_wordOf 27 = .ok (.ldc2_w 166, 3) := by decide +kernel
theorem dX12_wordOf_30 : decode cX12_wordOf 30 = .ok (.lcmp, 1) := by decide +kernel
theorem dX12_wordOf_31 : decode cX12_wordOf 31 = .ok (.ifCond .ne 8, 3) := by decide +kernel
theorem dX12_wordOf_34 : decode cX12_wordOf 34 = .ok (.bipush 12, 2) := by decide +kernel
theorem dX12_wordOf_36 : decode cX12_wordOf 36 = .ok (.goto 30, 3) := by decide +kernel
theorem dX12_wordOf_39 : decode cX12_wordOf 39 = .ok (.lload_n 0, 1) := by decide +kernel
theorem dX12_wordOf_40 : decode cX12_wordOf 40 = .ok (.ldc2_w 168, 3) := by decide +kernel
theorem dX12_wordOf_43 : decode cX12_wordOf 43 = .ok (.lcmp, 1) := by decide +kernel
theorem dX12_wordOf_44 : decode cX12_wordOf 44 = .ok (.ifCond .ne 8, 3) := by decide +kernel
theorem dX12_wordOf_47 : decode cX12_wordOf 47 = .ok (.bipush 13, 2) := by decide +kernel
theorem dX12_wordOf_49 : decode cX12_wordOf 49 = .ok (.goto 17, 3) := by decide +kernel
theorem dX12_wordOf_52 : decode cX12_wordOf 52 = .ok (.lload_n 0, 1) := by decide +kernel
theorem dX12_wordOf_53 : decode cX12_wordOf 53 = .ok (.ldc2_w 170, 3) := by decide +kernel
theorem dX12_wordOf_56 : decode cX12_wordOf 56 = .ok (.lcmp, 1) := by decide +kernel
theorem dX12_wordOf_57 : decode cX12_wordOf 57 = .ok (.ifCond .ne 8, 3) := by decide +kernel
theorem dX12_wordOf_60 : decode cX12_wordOf 60 = .ok (.bipush 14, 2) := by decide +kernel
theorem dX12_wordOf_62 : decode cX12_wordOf 62 = .ok (.goto 4, 3) := by decide +kernel
theorem dX12_wordOf_65 : decode cX12_wordOf 65 = .ok (.iconst 1, 1) := by decide +kernel
theorem dX12_wordOf_66 : decode cX12_wordOf 66 = .ok (.istore_n 2, 1) := by decide +kernel
theorem dX12_wordOf_67 : decode cX12_wordOf 67 = .ok (.lload_n 0, 1) := by decide +kernel
theorem dX12_wordOf_68 : decode cX12_wordOf 68 = .ok (.ldc2_w 172, 3) := by decide +kernel
theorem dX12_wordOf_71 : decode cX12_wordOf 71 = .ok (.lcmp, 1) := by decide +kernel
theorem dX12_wordOf_72 : decode cX12_wordOf 72 = .ok (.ifCond .ne 8, 3) := by decide +kernel
theorem dX12_wordOf_75 : decode cX12_wordOf 75 = .ok (.bipush 20, 2) := by decide +kernel
theorem dX12_wordOf_77 : decode cX12_wordOf 77 = .ok (.goto 82, 3) := by decide +kernel
theorem dX12_wordOf_80 : decode cX12_wordOf 80 = .ok (.lload_n 0, 1) := by decide +kernel
theorem dX12_wordOf_81 : decode cX12_wordOf 81 = .ok (.ldc2_w 174, 3) := by decide +kernel
theorem dX12_wordOf_84 : decode cX12_wordOf 84 = .ok (.lcmp, 1) := by decide +kernel
theorem dX12_wordOf_85 : decode cX12_wordOf 85 = .ok (.ifCond .ne 8, 3) := by decide +kernel
theorem dX12_wordOf_88 : decode cX12_wordOf 88 = .ok (.bipush 21, 2) := by decide +kernel
theorem dX12_wordOf_90 : decode cX12_wordOf 90 = .ok (.goto 69, 3) := by decide +kernel
theorem dX12_wordOf_93 : decode cX12_wordOf 93 = .ok (.lload_n 0, 1) := by decide +kernel
theorem dX12_wordOf_94 : decode cX12_wordOf 94 = .ok (.ldc2_w 176, 3) := by decide +kernel
theorem dX12_wordOf_97 : decode cX12_wordOf 97 = .ok (.lcmp, 1) := by decide +kernel
theorem dX12_wordOf_98 : decode cX12_wordOf 98 = .ok (.ifCond .ne 8, 3) := by decide +kernel
theorem dX12_wordOf_101 : decode cX12_wordOf 101 = .ok (.bipush 22, 2) := by decide +kernel
theorem dX12_wordOf_103 : decode cX12_wordOf 103 = .ok (.goto 56, 3) := by decide +kernel
theorem dX12_wordOf_106 : decode cX12_wordOf 106 = .ok (.lload_n 0, 1) := by decide +kernel
theorem dX12_wordOf_107 : decode cX12_wordOf 107 = .ok (.ldc2_w 178, 3) := by decide +kernel
theorem dX12_wordOf_110 : decode cX12_wordOf 110 = .ok (.lcmp, 1) := by decide +kernel
theorem dX12_wordOf_111 : decode cX12_wordOf 111 = .ok (.ifCond .ne 8, 3) := by decide +kernel
theorem dX12_wordOf_114 : decode cX12_wordOf 114 = .ok (.bipush 23, 2) := by decide +kernel
theorem dX12_wordOf_116 : decode cX12_wordOf 116 = .ok (.goto 43, 3) := by decide +kernel
theorem dX12_wordOf_119 : decode cX12_wordOf 119 = .ok (.lload_n 0, 1) := by decide +kernel
theorem dX12_wordOf_120 : decode cX12_wordOf 120 = .ok (.ldc2_w 180, 3) := by decide +kernel
theorem dX12_wordOf_123 : decode cX12_wordOf 123 = .ok (.lcmp, 1) := by decide +kernel
theorem dX12_wordOf_124 : decode cX12_wordOf 124 = .ok (.ifCond .ne 8, 3) := by decide +kernel
theorem dX12_wordOf_127 : decode cX12_wordOf 127 = .ok (.bipush 24, 2) := by decide +kernel
theorem dX12_wordOf_129 : decode cX12_wordOf 129 = .ok (.goto 30, 3) := by decide +kernel
theorem dX12_wordOf_132 : decode cX12_wordOf 132 = .ok (.lload_n 0, 1) := by decide +kernel
theorem dX12_wordOf_133 : decode cX12_wordOf 133 = .ok (.ldc2_w 182, 3) := by decide +kernel
theorem dX12_wordOf_136 : decode cX12_wordOf 136 = .ok (.lcmp, 1) := by decide +kernel
theorem dX12_wordOf_137 : decode cX12_wordOf 137 = .ok (.ifCond .ne 8, 3) := by decide +kernel
theorem dX12_wordOf_140 : decode cX12_wordOf 140 = .ok (.bipush 25, 2) := by decide +kernel
theorem dX12_wordOf_142 : decode cX12_wordOf 142 = .ok (.goto 17, 3) := by decide +kernel
theorem dX12_wordOf_145 : decode cX12_wordOf 145 = .ok (.lload_n 0, 1) := by decide +kernel
theorem dX12_wordOf_146 : decode cX12_wordOf 146 = .ok (.ldc2_w 184, 3) := by decide +kernel
theorem dX12_wordOf_149 : decode cX12_wordOf 149 = .ok (.lcmp, 1) := by decide +kernel
theorem dX12_wordOf_150 : decode cX12_wordOf 150 = .ok (.ifCond .ne 8, 3) := by decide +kernel
theorem dX12_wordOf_153 : decode cX12_wordOf 153 = .ok (.bipush 26, 2) := by decide +kernel
theorem dX12_wordOf_155 : decode cX12_wordOf 155 = .ok (.goto 4, 3) := by decide +kernel
theorem dX12_wordOf_158 : decode cX12_wordOf 158 = .ok (.iconst 1, 1) := by decide +kernel
theorem dX12_wordOf_159 : decode cX12_wordOf 159 = .ok (.istore_n 3, 1) := by decide +kernel
theorem dX12_wordOf_160 : decode cX12_wordOf 160 = .ok (.iload_n 2, 1) := by decide +kernel
theorem dX12_wordOf_161 : decode cX12_wordOf 161 = .ok (.iconst 1, 1) := by decide +kernel
theorem dX12_wordOf_162 : decode cX12_wordOf 162 = .ok (.if_icmp .eq 7, 3) := by decide +kernel
theorem dX12_wordOf_165 : decode cX12_wordOf 165 = .ok (.iload_n 2, 1) := by decide +kernel
theorem dX12_wordOf_166 : decode cX12_wordOf 166 = .ok (.goto 4, 3) := by decide +kernel
theorem dX12_wordOf_169 : decode cX12_wordOf 169 = .ok (.iload_n 3, 1) := by decide +kernel
theorem dX12_wordOf_170 : decode cX12_wordOf 170 = .ok (.ireturn, 1) := by decide +kernel
theorem dX12_scans_0 : decode cX12_scans 0 = .ok (.aload_n 0, 1) := by decide +kernel
theorem dX12_scans_1 : decode cX12_scans 1 = .ok (.bipush 32, 2) := by decide +kernel
theorem dX12_scans_3 : decode cX12_scans 3 = .ok (.bipush 32, 2) := by decide +kernel
theorem dX12_scans_5 : decode cX12_scans 5 = .ok (.invokevirtual 186, 3) := by decide +kernel
theorem dX12_scans_8 : decode cX12_scans 8 = .ok (.ifCond .eq 16, 3) := by decide +kernel
theorem dX12_scans_11 : decode cX12_scans 11 = .ok (.aload_n 0, 1) := by decide +kernel
theorem dX12_scans_12 : decode cX12_scans 12 = .ok (.dup, 1) := by decide +kernel
theorem dX12_scans_13 : decode cX12_scans 13 = .ok (.getfield 159, 3) := by decide +kernel
theorem dX12_scans_16 : decode cX12_scans 16 = .ok (.iconst 1, 1) := by decide +kernel
theorem dX12_scans_17 : decode cX12_scans 17 = .ok (.iadd, 1) := by decide +kernel
theorem dX12_scans_18 : decode cX12_scans 18 = .ok (.putfield 159, 3) := by decide +kernel
theorem dX12_scans_21 : decode cX12_scans 21 = .ok (.goto (-21), 3) := by decide +kernel
theorem dX12_scans_24 : decode cX12_scans 24 = .ok (.aload_n 0, 1) := by decide +kernel
theorem dX12_scans_25 : decode cX12_scans 25 = .ok (.aload_n 0, 1) := by decide +kernel
theorem dX12_scans_26 : decode cX12_scans 26 = .ok (.getfield 159, 3) := by decide +kernel
theorem dX12_scans_29 : decode cX12_scans 29 = .ok (.putfield 190, 3) := by decide +kernel
theorem dX12_scans_32 : decode cX12_scans 32 = .ok (.aload_n 0, 1) := by decide +kernel
theorem dX12_scans_33 : decode cX12_scans 33 = .ok (.getfield 159, 3) := by decide +kernel
theorem dX12_scans_36 : decode cX12_scans 36 = .ok (.aload_n 0, 1) := by decide +kernel
theorem dX12_scans_37 : decode cX12_scans 37 = .ok (.getfield 154, 3) := by decide +kernel
theorem dX12_scans_40 : decode cX12_scans 40 = .ok (.if_icmp .ne 9, 3) := by decide +kernel
theorem dX12_scans_43 : decode cX12_scans 43 = .ok (.aload_n 0, 1) := by decide +kernel
theorem dX12_scans_44 : decode cX12_scans 44 = .ok (.iconst 0, 1) := by decide +kernel
theorem dX12_scans_45 : decode cX12_scans 45 = .ok (.putfield 193, 3) := by decide +kernel
theorem dX12_scans_48 : decode cX12_scans 48 = .ok (.return_, 1) := by decide +kernel
theorem dX12_scans_49 : decode cX12_scans 49 = .ok (.aload_n 0, 1) := by decide +kernel
theorem dX12_scans_50 : decode cX12_scans 50 = .ok (.bipush 97, 2) := by decide +kernel
theorem dX12_scans_52 : decode cX12_scans 52 = .ok (.bipush 122, 2) := by decide +kernel
theorem dX12_scans_54 : decode cX12_scans 54 = .ok (.invokevirtual 186, 3) := by decide +kernel
theorem dX12_scans_57 : decode cX12_scans 57 = .ok (.ifCond .eq 97, 3) := by decide +kernel
theorem dX12_scans_60 : decode cX12_scans 60 = .ok (.lconst 0, 1) := by decide +kernel
theorem dX12_scans_61 : decode cX12_scans 61 = .ok (.lstore_n 1, 1) := by decide +kernel
theorem dX12_scans_62 : decode cX12_scans 62 = .ok (.aload_n 0, 1) := by decide +kernel
theorem dX12_scans_63 : decode cX12_scans 63 = .ok (.bipush 97, 2) := by decide +kernel
theorem dX12_scans_65 : decode cX12_scans 65 = .ok (.bipush 122, 2) := by decide +kernel
theorem dX12_scans_67 : decode cX12_scans 67 = .ok (.invokevirtual 186, 3) := by decide +kernel
theorem dX12_scans_70 : decode cX12_scans 70 = .ok (.ifCond .eq 57, 3) := by decide +kernel
theorem dX12_scans_73 : decode cX12_scans 73 = .ok (.aload_n 0, 1) := by decide +kernel
theorem dX12_scans_74 : decode cX12_scans 74 = .ok (.getfield 159, 3) := by decide +kernel
theorem dX12_scans_77 : decode cX12_scans 77 = .ok (.aload_n 0, 1) := by decide +kernel
theorem dX12_scans_78 : decode cX12_scans 78 = .ok (.getfield 190, 3) := by decide +kernel
theorem dX12_scans_81 : decode cX12_scans 81 = .ok (.isub, 1) := by decide +kernel
theorem dX12_scans_82 : decode cX12_scans 82 = .ok (.bipush 7, 2) := by decide +kernel
theorem dX12_scans_84 : decode cX12_scans 84 = .ok (.if_icmp .le 7, 3) := by decide +kernel
theorem dX12_scans_87 : decode cX12_scans 87 = .ok (.lconst 0, 1) := by decide +kernel
theorem dX12_scans_88 : decode cX12_scans 88 = .ok (.goto 25, 3) := by decide +kernel
theorem dX12_scans_91 : decode cX12_scans 91 = .ok (.ldc2_w 196, 3) := by decide +kernel
theorem dX12_scans_94 : decode cX12_scans 94 = .ok (.lload_n 1, 1) := by decide +kernel
theorem dX12_scans_95 : decode cX12_scans 95 = .ok (.lmul, 1) := by decide +kernel
theorem dX12_scans_96 : decode cX12_scans 96 = .ok (.aload_n 0, 1) := by decide +kernel
theorem dX12_scans_97 : decode cX12_scans 97 = .ok (.getfield 26, 3) := by decide +kernel
theorem dX12_scans_100 : decode cX12_scans 100 = .ok (.aload_n 0, 1) := by decide +kernel
theorem dX12_scans_101 : decode cX12_scans 101 = .ok (.getfield 159, 3) := by decide +kernel
theorem dX12_scans_104 : decode cX12_scans 104 = .ok (.iaload, 1) := by decide +kernel
theorem dX12_scans_105 : decode cX12_scans 105 = .ok (.i2l, 1) := by decide +kernel
theorem dX12_scans_106 : decode cX12_scans 106 = .ok (.ladd, 1) := by decide +kernel
theorem dX12_scans_107 : decode cX12_scans 107 = .ok (.ldc2_w 198, 3) := by decide +kernel
theorem dX12_scans_110 : decode cX12_scans 110 = .ok (.lsub, 1) := by decide +kernel
theorem dX12_scans_111 : decode cX12_scans 111 = .ok (.lconst 1, 1) := by decide +kernel
theorem dX12_scans_112 : decode cX12_scans 112 = .ok (.ladd, 1) := by decide +kernel
theorem dX12_scans_113 : decode cX12_scans 113 = .ok (.lstore_n 1, 1) := by decide +kernel
theorem dX12_scans_114 : decode cX12_scans 114 = .ok (.aload_n 0, 1) := by decide +kernel
theorem dX12_scans_115 : decode cX12_scans 115 = .ok (.dup, 1) := by decide +kernel
theorem dX12_scans_116 : decode cX12_scans 116 = .ok (.getfield 159, 3) := by decide +kernel
theorem dX12_scans_119 : decode cX12_scans 119 = .ok (.iconst 1, 1) := by decide +kernel
theorem dX12_scans_120 : decode cX12_scans 120 = .ok (.iadd, 1) := by decide +kernel
theorem dX12_scans_121 : decode cX12_scans 121 = .ok (.putfield 159, 3) := by decide +kernel
theorem dX12_scans_124 : decode cX12_scans 124 = .ok (.goto (-62), 3) := by decide +kernel
theorem dX12_scans_127 : decode cX12_scans 127 = .ok (.aload_n 0, 1) := by decide +kernel
theorem dX12_scans_128 : decode cX12_scans 128 = .ok (.aload_n 0, 1) := by decide +kernel
theorem dX12_scans_129 : decode cX12_scans 129 = .ok (.getfield 159, 3) := by decide +kernel
theorem dX12_scans_132 : decode cX12_scans 132 = .ok (.aload_n 0, 1) := by decide +kernel
theorem dX12_scans_133 : decode cX12_scans 133 = .ok (.getfield 190, 3) := by decide +kernel
theorem dX12_scans_136 : decode cX12_scans 136 = .ok (.isub, 1) := by decide +kernel
theorem dX12_scans_137 : decode cX12_scans 137 = .ok (.bipush 7, 2) := by decide +kernel
theorem dX12_scans_139 : decode cX12_scans 139 = .ok (.if_icmp .le 7, 3) := by decide +kernel
theorem dX12_scans_142 : decode cX12_scans 142 = .ok (.iconst 1, 1) := by decide +kernel
theorem dX12_scans_143 : decode cX12_scans 143 = .ok (.goto 7, 3) := by decide +kernel
theorem dX12_scans_146 : decode cX12_scans 146 = .ok (.lload_n 1, 1) := by decide +kernel
theorem dX12_scans_147 : decode cX12_scans 147 = .ok (.invokestatic 200, 3) := by decide +kernel
theorem dX12_scans_150 : decode cX12_scans 150 = .ok (.putfield 193, 3) := by decide +kernel
theorem dX12_scans_153 : decode cX12_scans 153 = .ok (.return_, 1) := by decide +kernel
theorem dX12_scans_154 : decode cX12_scans 154 = .ok (.aload_n 0, 1) := by decide +kernel
theorem dX12_scans_155 : decode cX12_scans 155 = .ok (.bipush 48, 2) := by decide +kernel
theorem dX12_scans_157 : decode cX12_scans 157 = .ok (.bipush 57, 2) := by decide +kernel
theorem dX12_scans_159 : decode cX12_scans 159 = .ok (.invokevirtual 186, 3) := by decide +kernel
theorem dX12_scans_162 : decode cX12_scans 162 = .ok (.ifCond .eq 99, 3) := by decide +kernel
theorem dX12_scans_165 : decode cX12_scans 165 = .ok (.aload_n 0, 1) := by decide +kernel
theorem dX12_scans_166 : decode cX12_scans 166 = .ok (.iconst 0, 1) := by decide +kernel
theorem dX12_scans_167 : decode cX12_scans 167 = .ok (.putfield 204, 3) := by decide +kernel
theorem dX12_scans_170 : decode cX12_scans 170 = .ok (.aload_n 0, 1) := by decide +kernel
theorem dX12_scans_171 : decode cX12_scans 171 = .ok (.bipush 48, 2) := by decide +kernel
theorem dX12_scans_173 : decode cX12_scans 173 = .ok (.bipush 57, 2) := by decide +kernel
theorem dX12_scans_175 : decode cX12_scans 175 = .ok (.invokevirtual 186, 3) := by decide +kernel
theorem dX12_scans_178 : decode cX12_scans 178 = .ok (.ifCond .eq 60, 3) := by decide +kernel
theorem dX12_scans_181 : decode cX12_scans 181 = .ok (.aload_n 0, 1) := by decide +kernel
theorem dX12_scans_182 : decode cX12_scans 182 = .ok (.aload_n 0, 1) := by decide +kernel
theorem dX12_scans_183 : decode cX12_scans 183 = .ok (.getfield 159, 3) := by decide +kernel
theorem dX12_scans_186 : decode cX12_scans 186 = .ok (.aload_n 0, 1) := by decide +kernel
theorem dX12_scans_187 : decode cX12_scans 187 = .ok (.getfield 190, 3) := by decide +kernel
theorem dX12_scans_190 : decode cX12_scans 190 = .ok (.isub, 1) := by decide +kernel
theorem dX12_scans_191 : decode cX12_scans 191 = .ok (.iconst 2, 1) := by decide +kernel
theorem dX12_scans_192 : decode cX12_scans 192 = .ok (.if_icmp .ge 26, 3) := by decide +kernel
theorem dX12_scans_195 : decode cX12_scans 195 = .ok (.bipush 10, 2) := by decide +kernel
theorem dX12_scans_197 : decode cX12_scans 197 = .ok (.aload_n 0, 1) := by decide +kernel
theorem dX12_scans_198 : decode cX12_scans 198 = .ok (.getfield 204, 3) := by decide +kernel
theorem dX12_scans_201 : decode cX12_scans 201 = .ok (.imul, 1) := by decide +kernel
theorem dX12_scans_202 : decode cX12_scans 202 = .ok (.aload_n 0, 1) := by decide +kernel
theorem dX12_scans_203 : decode cX12_scans 203 = .ok (.getfield 26, 3) := by decide +kernel
theorem dX12_scans_206 : decode cX12_scans 206 = .ok (.aload_n 0, 1) := by decide +kernel
theorem dX12_scans_207 : decode cX12_scans 207 = .ok (.getfield 159, 3) := by decide +kernel
theorem dX12_scans_210 : decode cX12_scans 210 = .ok (.iaload, 1) := by decide +kernel
theorem dX12_scans_211 : decode cX12_scans 211 = .ok (.iadd, 1) := by decide +kernel
theorem dX12_scans_212 : decode cX12_scans 212 = .ok (.bipush 48, 2) := by decide +kernel
theorem dX12_scans_214 : decode cX12_scans 214 = .ok (.isub, 1) := by decide +kernel
theorem dX12_scans_215 : decode cX12_scans 215 = .ok (.goto 7, 3) := by decide +kernel
theorem dX12_scans_218 : decode cX12_scans 218 = .ok (.aload_n 0, 1) := by decide +kernel
theorem dX12_scans_219 : decode cX12_scans 219 = .ok (.getfield 204, 3) := by decide +kernel
theorem dX12_scans_222 : decode cX12_scans 222 = .ok (.putfield 204, 3) := by decide +kernel
theorem dX12_scans_225 : decode cX12_scans 225 = .ok (.aload_n 0, 1) := by decide +kernel
theorem dX12_scans_226 : decode cX12_scans 226 = .ok (.dup, 1) := by decide +kernel
theorem dX12_scans_227 : decode cX12_scans 227 = .ok (.getfield 159, 3) := by decide +kernel
theorem dX12_scans_230 : decode cX12_scans 230 = .ok (.iconst 1, 1) := by decide +kernel
theorem dX12_scans_231 : decode cX12_scans 231 = .ok (.iadd, 1) := by decide +kernel
theorem dX12_scans_232 : decode cX12_scans 232 = .ok (.putfield 159, 3) := by decide +kernel
theorem dX12_scans_235 : decode cX12_scans 235 = .ok (.goto (-65), 3) := by decide +kernel
theorem dX12_scans_238 : decode cX12_scans 238 = .ok (.aload_n 0, 1) := by decide +kernel
theorem dX12_scans_239 : decode cX12_scans 239 = .ok (.aload_n 0, 1) := by decide +kernel
theorem dX12_scans_240 : decode cX12_scans 240 = .ok (.getfield 159, 3) := by decide +kernel
theorem dX12_scans_243 : decode cX12_scans 243 = .ok (.aload_n 0, 1) := by decide +kernel
theorem dX12_scans_244 : decode cX12_scans 244 = .ok (.getfield 190, 3) := by decide +kernel
theorem dX12_scans_247 : decode cX12_scans 247 = .ok (.isub, 1) := by decide +kernel
theorem dX12_scans_248 : decode cX12_scans 248 = .ok (.iconst 2, 1) := by decide +kernel
theorem dX12_scans_249 : decode cX12_scans 249 = .ok (.if_icmp .le 7, 3) := by decide +kernel
theorem dX12_scans_252 : decode cX12_scans 252 = .ok (.iconst 1, 1) := by decide +kernel
theorem dX12_scans_253 : decode cX12_scans 253 = .ok (.goto 4, 3) := by decide +kernel
theorem dX12_scans_256 : decode cX12_scans 256 = .ok (.iconst 2, 1) := by decide +kernel
theorem dX12_scans_257 : decode cX12_scans 257 = .ok (.putfield 193, 3) := by decide +kernel
theorem dX12_scans_260 : decode cX12_scans 260 = .ok (.return_, 1) := by decide +kernel
theorem dX12_scans_261 : decode cX12_scans 261 = .ok (.aload_n 0, 1) := by decide +kernel
theorem dX12_scans_262 : decode cX12_scans 262 = .ok (.aload_n 0, 1) := by decide +kernel
theorem dX12_scans_263 : decode cX12_scans 263 = .ok (.bipush 59, 2) := by decide +kernel
theorem dX12_scans_265 : decode cX12_scans 265 = .ok (.bipush 59, 2) := by decide +kernel
theorem dX12_scans_267 : decode cX12_scans 267 = .ok (.invokevirtual 186, 3) := by decide +kernel
theorem dX12_scans_270 : decode cX12_scans 270 = .ok (.ifCond .eq 7, 3) := by decide +kernel
theorem dX12_scans_273 : decode cX12_scans 273 = .ok (.iconst 3, 1) := by decide +kernel
theorem dX12_scans_274 : decode cX12_scans 274 = .ok (.goto 4, 3) := by decide +kernel
theorem dX12_scans_277 : decode cX12_scans 277 = .ok (.iconst 1, 1) := by decide +kernel
theorem dX12_scans_278 : decode cX12_scans 278 = .ok (.putfield 193, 3) := by decide +kernel
theorem dX12_scans_281 : decode cX12_scans 281 = .ok (.aload_n 0, 1) := by decide +kernel
theorem dX12_scans_282 : decode cX12_scans 282 = .ok (.dup, 1) := by decide +kernel
theorem dX12_scans_283 : decode cX12_scans 283 = .ok (.getfield 159, 3) := by decide +kernel
theorem dX12_scans_286 : decode cX12_scans 286 = .ok (.iconst 1, 1) := by decide +kernel
theorem dX12_scans_287 : decode cX12_scans 287 = .ok (.iadd, 1) := by decide +kernel
theorem dX12_scans_288 : decode cX12_scans 288 = .ok (.putfield 159, 3) := by decide +kernel
theorem dX12_scans_291 : decode cX12_scans 291 = .ok (.return_, 1) := by decide +kernel
theorem dX12_numbers_0 : decode cX12_numbers 0 = .ok (.iload_n 0, 1) := by decide +kernel
theorem dX12_numbers_1 : decode cX12_numbers 1 = .ok (.tableswitch 49 20 26 #[43, 45, 43, 43, 43, 47, 45], 43) := by decide +kernel
theorem dX12_numbers_44 : decode cX12_numbers 44 = .ok (.iconst 1, 1) := by decide +kernel
theorem dX12_numbers_45 : decode cX12_numbers 45 = .ok (.ireturn, 1) := by decide +kernel
theorem dX12_numbers_46 : decode cX12_numbers 46 = .ok (.iconst 2, 1) := by decide +kernel
theorem dX12_numbers_47 : decode cX12_numbers 47 = .ok (.ireturn, 1) := by decide +kernel
theorem dX12_numbers_48 : decode cX12_numbers 48 = .ok (.iconst 5, 1) := by decide +kernel
theorem dX12_numbers_49 : decode cX12_numbers 49 = .ok (.ireturn, 1) := by decide +kernel
theorem dX12_numbers_50 : decode cX12_numbers 50 = .ok (.iconst 4, 1) := by decide +kernel
theorem dX12_numbers_51 : decode cX12_numbers 51 = .ok (.ireturn, 1) := by decide +kernel
theorem dX12_reads_0 : decode cX12_reads 0 = .ok (.aload_n 0, 1) := by decide +kernel
theorem dX12_reads_1 : decode cX12_reads 1 = .ok (.iconst 0, 1) := by decide +kernel
theorem dX12_reads_2 : decode cX12_reads 2 = .ok (.putfield 159, 3) := by decide +kernel
theorem dX12_reads_5 : decode cX12_reads 5 = .ok (.aload_n 0, 1) := by decide +kernel
theorem dX12_reads_6 : decode cX12_reads 6 = .ok (.iconst 0, 1) := by decide +kernel
theorem dX12_reads_7 : decode cX12_reads 7 = .ok (.putfield 207, 3) := by decide +kernel
theorem dX12_reads_10 : decode cX12_reads 10 = .ok (.aload_n 0, 1) := by decide +kernel
theorem dX12_reads_11 : decode cX12_reads 11 = .ok (.invokevirtual 210, 3) := by decide +kernel
theorem dX12_reads_14 : decode cX12_reads 14 = .ok (.aload_n 0, 1) := by decide +kernel
theorem dX12_reads_15 : decode cX12_reads 15 = .ok (.getfield 193, 3) := by decide +kernel
theorem dX12_reads_18 : decode cX12_reads 18 = .ok (.ifCond .eq 104, 3) := by decide +kernel
theorem dX12_reads_21 : decode cX12_reads 21 = .ok (.aload_n 0, 1) := by decide +kernel
theorem dX12_reads_22 : decode cX12_reads 22 = .ok (.getfield 193, 3) := by decide +kernel
theorem dX12_reads_25 : decode cX12_reads 25 = .ok (.istore_n 1, 1) := by decide +kernel
theorem dX12_reads_26 : decode cX12_reads 26 = .ok (.iload_n 1, 1) := by decide +kernel
theorem dX12_reads_27 : decode cX12_reads 27 = .ok (.bipush 10, 2) := by decide +kernel
theorem dX12_reads_29 : decode cX12_reads 29 = .ok (.if_icmp .ge 5, 3) := by decide +kernel
theorem dX12_reads_32 : decode cX12_reads 32 = .ok (.iconst 0, 1) := by decide +kernel
theorem dX12_reads_33 : decode cX12_reads 33 = .ok (.ireturn, 1) := by decide +kernel
theorem dX12_reads_34 : decode cX12_reads 34 = .ok (.aload_n 0, 1) := by decide +kernel
theorem dX12_reads_35 : decode cX12_reads 35 = .ok (.invokevirtual 210, 3) := by decide +kernel
theorem dX12_reads_38 : decode cX12_reads 38 = .ok (.iconst 0, 1) := by decide +kernel
theorem dX12_reads_39 : decode cX12_reads 39 = .ok (.istore_n 2, 1) := by decide +kernel
theorem dX12_reads_40 : decode cX12_reads 40 = .ok (.iload_n 2, 1) := by decide +kernel
theorem dX12_reads_41 : decode cX12_reads 41 = .ok (.iload_n 1, 1) := by decide +kernel
theorem dX12_reads_42 : decode cX12_reads 42 = .ok (.invokestatic 213, 3) := by decide +kernel
theorem dX12_reads_45 : decode cX12_reads 45 = .ok (.if_icmp .ge 40, 3) := by decide +kernel
theorem dX12_reads_48 : decode cX12_reads 48 = .ok (.aload_n 0, 1) := by decide +kernel
theorem dX12_reads_49 : decode cX12_reads 49 = .ok (.getfield 193, 3) := by decide +kernel
theorem dX12_reads_52 : decode cX12_reads 52 = .ok (.iconst 2, 1) := by decide +kernel
theorem dX12_reads_53 : decode cX12_reads 53 = .ok (.if_icmp .eq 5, 3) := by decide +kernel
theorem dX12_reads_56 : decode cX12_reads 56 = .ok (.iconst 0, 1) := by decide +kernel
theorem dX12_reads_57 : decode cX12_reads 57 = .ok (.ireturn, 1) := by decide +kernel
theorem dX12_reads_58 : decode cX12_reads 58 = .ok (.aload_n 0, 1) := by decide +kernel
theorem dX12_reads_59 : decode cX12_reads 59 = .ok (.getfield 32, 3) := by decide +kernel
theorem dX12_reads_62 : decode cX12_reads 62 = .ok (.iconst 5, 1) := by decide +kernel
theorem dX12_reads_63 : decode cX12_reads 63 = .ok (.aload_n 0, 1) := by decide +kernel
theorem dX12_reads_64 : decode cX12_reads 64 = .ok (.getfield 207, 3) := by decide +kernel
theorem dX12_reads_67 : decode cX12_reads 67 = .ok (.imul, 1) := by decide +kernel
theorem dX12_reads_68 : decode cX12_reads 68 = .ok (.iload_n 2, 1) := by decide +kernel
theorem dX12_reads_69 : decode cX12_reads 69 = .ok (.iadd, 1) := by decide +kernel
theorem dX12_reads_70 : decode cX12_reads 70 = .ok (.aload_n 0, 1) := by decide +kernel
theorem dX12_reads_71 : decode cX12_reads 71 = .ok (.getfield 204, 3) := by decide +kernel
theorem dX12_reads_74 : decode cX12_reads 74 = .ok (.iastore, 1) := by decide +kernel
theorem dX12_reads_75 : decode cX12_reads 75 = .ok (.aload_n 0, 1) := by decide +kernel
theorem dX12_reads_76 : decode cX12_reads 76 = .ok (.invokevirtual 210, 3) := by decide +kernel
theorem dX12_reads_79 : decode cX12_reads 79 = .ok (.iinc 2 1, 3) := by decide +kernel
theorem dX12_reads_82 : decode cX12_reads 82 = .ok (.goto (-42), 3) := by decide +kernel
theorem dX12_reads_85 : decode cX12_reads 85 = .ok (.aload_n 0, 1) := by decide +kernel
theorem dX12_reads_86 : decode cX12_reads 86 = .ok (.getfield 193, 3) := by decide +kernel
theorem dX12_reads_89 : decode cX12_reads 89 = .ok (.iconst 3, 1) := by decide +kernel
theorem dX12_reads_90 : decode cX12_reads 90 = .ok (.if_icmp .eq 5, 3) := by decide +kernel
theorem dX12_reads_93 : decode cX12_reads 93 = .ok (.iconst 0, 1) := by decide +kernel
theorem dX12_reads_94 : decode cX12_reads 94 = .ok (.ireturn, 1) := by decide +kernel
theorem dX12_reads_95 : decode cX12_reads 95 = .ok (.aload_n 0, 1) := by decide +kernel
theorem dX12_reads_96 : decode cX12_reads 96 = .ok (.getfield 29, 3) := by decide +kernel
theorem dX12_reads_99 : decode cX12_reads 99 = .ok (.aload_n 0, 1) := by decide +kernel
theorem dX12_reads_100 : decode cX12_reads 100 = .ok (.getfield 207, 3) := by decide +kernel
theorem dX12_reads_103 : decode cX12_reads 103 = .ok (.iload_n 1, 1) := by decide +kernel
theorem dX12_reads_104 : decode cX12_reads 104 = .ok (.iastore, 1) := by decide +kernel
theorem dX12_reads_105 : decode cX12_reads 105 = .ok (.aload_n 0, 1) := by decide +kernel
theorem dX12_reads_106 : decode cX12_reads 106 = .ok (.dup, 1) := by decide +kernel
theorem dX12_reads_107 : decode cX12_reads 107 = .ok (.getfield 207, 3) := by decide +kernel
theorem dX12_reads_110 : decode cX12_reads 110 = .ok (.iconst 1, 1) := by decide +kernel
theorem dX12_reads_111 : decode cX12_reads 111 = .ok (.iadd, 1) := by decide +kernel
theorem dX12_reads_112 : decode cX12_reads 112 = .ok (.putfield 207, 3) := by decide +kernel
theorem dX12_reads_115 : decode cX12_reads 115 = .ok (.aload_n 0, 1) := by decide +kernel
theorem dX12_reads_116 : decode cX12_reads 116 = .ok (.invokevirtual 210, 3) := by decide +kernel
theorem dX12_reads_119 : decode cX12_reads 119 = .ok (.goto (-105), 3) := by decide +kernel
theorem dX12_reads_122 : decode cX12_reads 122 = .ok (.iconst 1, 1) := by decide +kernel
theorem dX12_reads_123 : decode cX12_reads 123 = .ok (.ireturn, 1) := by decide +kernel
theorem dX12_tellsItem_0 : decode cX12_tellsItem 0 = .ok (.aload_n 0, 1) := by decide +kernel
theorem dX12_tellsItem_1 : decode cX12_tellsItem 1 = .ok (.getfield 32, 3) := by decide +kernel
theorem dX12_tellsItem_4 : decode cX12_tellsItem 4 = .ok (.iconst 5, 1) := by decide +kernel
theorem dX12_tellsItem_5 : decode cX12_tellsItem 5 = .ok (.iload_n 1, 1) := by decide +kernel
theorem dX12_tellsItem_6 : decode cX12_tellsItem 6 = .ok (.imul, 1) := by decide +kernel
theorem dX12_tellsItem_7 : decode cX12_tellsItem 7 = .ok (.iaload, 1) := by decide +kernel
theorem dX12_tellsItem_8 : decode cX12_tellsItem 8 = .ok (.istore_n 2, 1) := by decide +kernel
theorem dX12_tellsItem_9 : decode cX12_tellsItem 9 = .ok (.aload_n 0, 1) := by decide +kernel
theorem dX12_tellsItem_10 : decode cX12_tellsItem 10 = .ok (.getfield 32, 3) := by decide +kernel
theorem dX12_tellsItem_13 : decode cX12_tellsItem 13 = .ok (.iconst 5, 1) := by decide +kernel
theorem dX12_tellsItem_14 : decode cX12_tellsItem 14 = .ok (.iload_n 1, 1) := by decide +kernel
theorem dX12_tellsItem_15 : decode cX12_tellsItem 15 = .ok (.imul, 1) := by decide +kernel
theorem dX12_tellsItem_16 : decode cX12_tellsItem 16 = .ok (.iconst 1, 1) := by decide +kernel
theorem dX12_tellsItem_17 : decode cX12_tellsItem 17 = .ok (.iadd, 1) := by decide +kernel
theorem dX12_tellsItem_18 : decode cX12_tellsItem 18 = .ok (.iaload, 1) := by decide +kernel
theorem dX12_tellsItem_19 : decode cX12_tellsItem 19 = .ok (.istore_n 3, 1) := by decide +kernel
theorem dX12_tellsItem_20 : decode cX12_tellsItem 20 = .ok (.aload_n 0, 1) := by decide +kernel
theorem dX12_tellsItem_21 : decode cX12_tellsItem 21 = .ok (.getfield 32, 3) := by decide +kernel
theorem dX12_tellsItem_24 : decode cX12_tellsItem 24 = .ok (.iconst 5, 1) := by decide +kernel
theorem dX12_tellsItem_25 : decode cX12_tellsItem 25 = .ok (.iload_n 1, 1) := by decide +kernel
theorem dX12_tellsItem_26 : decode cX12_tellsItem 26 = .ok (.imul, 1) := by decide +kernel
theorem dX12_tellsItem_27 : decode cX12_tellsItem 27 = .ok (.iconst 2, 1) := by decide +kernel
theorem dX12_tellsItem_28 : decode cX12_tellsItem 28 = .ok (.iadd, 1) := by decide +kernel
theorem dX12_tellsItem_29 : decode cX12_tellsItem 29 = .ok (.iaload, 1) := by decide +kernel
theorem dX12_tellsItem_30 : decode cX12_tellsItem 30 = .ok (.istore 4, 2) := by decide +kernel
theorem dX12_tellsItem_32 : decode cX12_tellsItem 32 = .ok (.aload_n 0, 1) := by decide +kernel
theorem dX12_tellsItem_33 : decode cX12_tellsItem 33 = .ok (.getfield 32, 3) := by decide +kernel
theorem dX12_tellsItem_36 : decode cX12_tellsItem 36 = .ok (.iconst 5, 1) := by decide +kernel
theorem dX12_tellsItem_37 : decode cX12_tellsItem 37 = .ok (.iload_n 1, 1) := by decide +kernel
theorem dX12_tellsItem_38 : decode cX12_tellsItem 38 = .ok (.imul, 1) := by decide +kernel
theorem dX12_tellsItem_39 : decode cX12_tellsItem 39 = .ok (.iconst 3, 1) := by decide +kernel
theorem dX12_tellsItem_40 : decode cX12_tellsItem 40 = .ok (.iadd, 1) := by decide +kernel
theorem dX12_tellsItem_41 : decode cX12_tellsItem 41 = .ok (.iaload, 1) := by decide +kernel
theorem dX12_tellsItem_42 : decode cX12_tellsItem 42 = .ok (.istore 5, 2) := by decide +kernel
theorem dX12_tellsItem_44 : decode cX12_tellsItem 44 = .ok (.aload_n 0, 1) := by decide +kernel
theorem dX12_tellsItem_45 : decode cX12_tellsItem 45 = .ok (.getfield 29, 3) := by decide +kernel
theorem dX12_tellsItem_48 : decode cX12_tellsItem 48 = .ok (.iload_n 1, 1) := by decide +kernel
theorem dX12_tellsItem_49 : decode cX12_tellsItem 49 = .ok (.iaload, 1) := by decide +kernel
theorem dX12_tellsItem_50 : decode cX12_tellsItem 50 = .ok (.tableswitch 161 20 26 #[42, 57, 72, 87, 102, 116, 145], 42) := by decide +kernel
theorem dX12_tellsItem_92 : decode cX12_tellsItem 92 = .ok (.aload_n 0, 1) := by decide +kernel
theorem dX12_tellsItem_93 : decode cX12_tellsItem 93 = .ok (.iload_n 2, 1) := by decide +kernel
theorem dX12_tellsItem_94 : decode cX12_tellsItem 94 = .ok (.iconst 1, 1) := by decide +kernel
theorem dX12_tellsItem_95 : decode cX12_tellsItem 95 = .ok (.invokevirtual 217, 3) := by decide +kernel
theorem dX12_tellsItem_98 : decode cX12_tellsItem 98 = .ok (.ifCond .lt 7, 3) := by decide +kernel
theorem dX12_tellsItem_101 : decode cX12_tellsItem 101 = .ok (.iconst 1, 1) := by decide +kernel
theorem dX12_tellsItem_102 : decode cX12_tellsItem 102 = .ok (.goto 4, 3) := by decide +kernel
theorem dX12_tellsItem_105 : decode cX12_tellsItem 105 = .ok (.iconst 0, 1) := by decide +kernel
theorem dX12_tellsItem_106 : decode cX12_tellsItem 106 = .ok (.ireturn, 1) := by decide +kernel
theorem dX12_tellsItem_107 : decode cX12_tellsItem 107 = .ok (.aload_n 0, 1) := by decide +kernel
theorem dX12_tellsItem_108 : decode cX12_tellsItem 108 = .ok (.iload_n 2, 1) := by decide +kernel
theorem dX12_tellsItem_109 : decode cX12_tellsItem 109 = .ok (.iload_n 3, 1) := by decide +kernel
theorem dX12_tellsItem_110 : decode cX12_tellsItem 110 = .ok (.invokevirtual 221, 3) := by decide +kernel
theorem dX12_tellsItem_113 : decode cX12_tellsItem 113 = .ok (.ifCond .lt 7, 3) := by decide +kernel
theorem dX12_tellsItem_116 : decode cX12_tellsItem 116 = .ok (.iconst 1, 1) := by decide +kernel
theorem dX12_tellsItem_117 : decode cX12_tellsItem 117 = .ok (.goto 4, 3) := by decide +kernel
theorem dX12_tellsItem_120 : decode cX12_tellsItem 120 = .ok (.iconst 0, 1) := by decide +kernel
theorem dX12_tellsItem_121 : decode cX12_tellsItem 121 = .ok (.ireturn, 1) := by decide +kernel
theorem dX12_tellsItem_122 : decode cX12_tellsItem 122 = .ok (.aload_n 0, 1) := by decide +kernel
theorem dX12_tellsItem_123 : decode cX12_tellsItem 123 = .ok (.iconst 0, 1) := by decide +kernel
theorem dX12_tellsItem_124 : decode cX12_tellsItem 124 = .ok (.iload_n 2, 1) := by decide +kernel
theorem dX12_tellsItem_125 : decode cX12_tellsItem 125 = .ok (.invokevirtual 224, 3) := by decide +kernel
theorem dX12_tellsItem_128 : decode cX12_tellsItem 128 = .ok (.ifCond .lt 7, 3) := by decide +kernel
theorem dX12_tellsItem_131 : decode cX12_tellsItem 131 = .ok (.iconst 1, 1) := by decide +kernel
theorem dX12_tellsItem_132 : decode cX12_tellsItem 132 = .ok (.goto 4, 3) := by decide +kernel
theorem dX12_tellsItem_135 : decode cX12_tellsItem 135 = .ok (.iconst 0, 1) := by decide +kernel
theorem dX12_tellsItem_136 : decode cX12_tellsItem 136 = .ok (.ireturn, 1) := by decide +kernel
theorem dX12_tellsItem_137 : decode cX12_tellsItem 137 = .ok (.aload_n 0, 1) := by decide +kernel
theorem dX12_tellsItem_138 : decode cX12_tellsItem 138 = .ok (.iconst 1, 1) := by decide +kernel
theorem dX12_tellsItem_139 : decode cX12_tellsItem 139 = .ok (.iload_n 2, 1) := by decide +kernel
theorem dX12_tellsItem_140 : decode cX12_tellsItem 140 = .ok (.invokevirtual 224, 3) := by decide +kernel
theorem dX12_tellsItem_143 : decode cX12_tellsItem 143 = .ok (.ifCond .lt 7, 3) := by decide +kernel
theorem dX12_tellsItem_146 : decode cX12_tellsItem 146 = .ok (.iconst 1, 1) := by decide +kernel
theorem dX12_tellsItem_147 : decode cX12_tellsItem 147 = .ok (.goto 4, 3) := by decide +kernel
theorem dX12_tellsItem_150 : decode cX12_tellsItem 150 = .ok (.iconst 0, 1) := by decide +kernel
theorem dX12_tellsItem_151 : decode cX12_tellsItem 151 = .ok (.ireturn, 1) := by decide +kernel
theorem dX12_tellsItem_152 : decode cX12_tellsItem 152 = .ok (.aload_n 0, 1) := by decide +kernel
theorem dX12_tellsItem_153 : decode cX12_tellsItem 153 = .ok (.iload_n 2, 1) := by decide +kernel
theorem dX12_tellsItem_154 : decode cX12_tellsItem 154 = .ok (.invokevirtual 227, 3) := by decide +kernel
theorem dX12_tellsItem_157 : decode cX12_tellsItem 157 = .ok (.ifCond .lt 7, 3) := by decide +kernel
theorem dX12_tellsItem_160 : decode cX12_tellsItem 160 = .ok (.iconst 1, 1) := by decide +kernel
theorem dX12_tellsItem_161 : decode cX12_tellsItem 161 = .ok (.goto 4, 3) := by decide +kernel
theorem dX12_tellsItem_164 : decode cX12_tellsItem 164 = .ok (.iconst 0, 1) := by decide +kernel
theorem dX12_tellsItem_165 : decode cX12_tellsItem 165 = .ok (.ireturn, 1) := by decide +kernel
theorem dX12_tellsItem_166 : decode cX12_tellsItem 166 = .ok (.aload_n 0, 1) := by decide +kernel
theorem dX12_tellsItem_167 : decode cX12_tellsItem 167 = .ok (.iload_n 2, 1) := by decide +kernel
theorem dX12_tellsItem_168 : decode cX12_tellsItem 168 = .ok (.iload_n 3, 1) := by decide +kernel
theorem dX12_tellsItem_169 : decode cX12_tellsItem 169 = .ok (.iload 4, 2) := by decide +kernel
theorem dX12_tellsItem_171 : decode cX12_tellsItem 171 = .ok (.iload 5, 2) := by decide +kernel
theorem dX12_tellsItem_173 : decode cX12_tellsItem 173 = .ok (.aload_n 0, 1) := by decide +kernel
theorem dX12_tellsItem_174 : decode cX12_tellsItem 174 = .ok (.getfield 32, 3) := by decide +kernel
theorem dX12_tellsItem_177 : decode cX12_tellsItem 177 = .ok (.iconst 5, 1) := by decide +kernel
theorem dX12_tellsItem_178 : decode cX12_tellsItem 178 = .ok (.iload_n 1, 1) := by decide +kernel
theorem dX12_tellsItem_179 : decode cX12_tellsItem 179 = .ok (.imul, 1) := by decide +kernel
theorem dX12_tellsItem_180 : decode cX12_tellsItem 180 = .ok (.iconst 4, 1) := by decide +kernel
theorem dX12_tellsItem_181 : decode cX12_tellsItem 181 = .ok (.iadd, 1) := by decide +kernel
theorem dX12_tellsItem_182 : decode cX12_tellsItem 182 = .ok (.iaload, 1) := by decide +kernel
theorem dX12_tellsItem_183 : decode cX12_tellsItem 183 = .ok (.invokevirtual 230, 3) := by decide +kernel
theorem dX12_tellsItem_186 : decode cX12_tellsItem 186 = .ok (.ifCond .lt 7, 3) := by decide +kernel
theorem dX12_tellsItem_189 : decode cX12_tellsItem 189 = .ok (.iconst 1, 1) := by decide +kernel
theorem dX12_tellsItem_190 : decode cX12_tellsItem 190 = .ok (.goto 4, 3) := by decide +kernel
theorem dX12_tellsItem_193 : decode cX12_tellsItem 193 = .ok (.iconst 0, 1) := by decide +kernel
theorem dX12_tellsItem_194 : decode cX12_tellsItem 194 = .ok (.ireturn, 1) := by decide +kernel
theorem dX12_tellsItem_195 : decode cX12_tellsItem 195 = .ok (.aload_n 0, 1) := by decide +kernel
theorem dX12_tellsItem_196 : decode cX12_tellsItem 196 = .ok (.iload_n 2, 1) := by decide +kernel
theorem dX12_tellsItem_197 : decode cX12_tellsItem 197 = .ok (.iload_n 3, 1) := by decide +kernel
theorem dX12_tellsItem_198 : decode cX12_tellsItem 198 = .ok (.invokevirtual 234, 3) := by decide +kernel
theorem dX12_tellsItem_201 : decode cX12_tellsItem 201 = .ok (.iconst (-1), 1) := by decide +kernel
theorem dX12_tellsItem_202 : decode cX12_tellsItem 202 = .ok (.if_icmp .lt 7, 3) := by decide +kernel
theorem dX12_tellsItem_205 : decode cX12_tellsItem 205 = .ok (.iconst 1, 1) := by decide +kernel
theorem dX12_tellsItem_206 : decode cX12_tellsItem 206 = .ok (.goto 4, 3) := by decide +kernel
theorem dX12_tellsItem_209 : decode cX12_tellsItem 209 = .ok (.iconst 0, 1) := by decide +kernel
theorem dX12_tellsItem_210 : decode cX12_tellsItem 210 = .ok (.ireturn, 1) := by decide +kernel
theorem dX12_tellsItem_211 : decode cX12_tellsItem 211 = .ok (.aload_n 0, 1) := by decide +kernel
theorem dX12_tellsItem_212 : decode cX12_tellsItem 212 = .ok (.aload_n 0, 1) := by decide +kernel
theorem dX12_tellsItem_213 : decode cX12_tellsItem 213 = .ok (.getfield 29, 3) := by decide +kernel
theorem dX12_tellsItem_216 : decode cX12_tellsItem 216 = .ok (.iload_n 1, 1) := by decide +kernel
theorem dX12_tellsItem_217 : decode cX12_tellsItem 217 = .ok (.iaload, 1) := by decide +kernel
theorem dX12_tellsItem_218 : decode cX12_tellsItem 218 = .ok (.bipush 10, 2) := by decide +kernel
theorem dX12_tellsItem_220 : decode cX12_tellsItem 220 = .ok (.isub, 1) := by decide +kernel
theorem dX12_tellsItem_221 : decode cX12_tellsItem 221 = .ok (.iload_n 2, 1) := by decide +kernel
theorem dX12_tellsItem_222 : decode cX12_tellsItem 222 = .ok (.iload_n 3, 1) := by decide +kernel
theorem dX12_tellsItem_223 : decode cX12_tellsItem 223 = .ok (.iload 4, 2) := by decide +kernel
theorem dX12_tellsItem_225 : decode cX12_tellsItem 225 = .ok (.iload 5, 2) := by decide +kernel
theorem dX12_tellsItem_227 : decode cX12_tellsItem 227 = .ok (.invokevirtual 237, 3) := by decide +kernel
theorem dX12_tellsItem_230 : decode cX12_tellsItem 230 = .ok (.ifCond .lt 7, 3) := by decide +kernel
theorem dX12_tellsItem_233 : decode cX12_tellsItem 233 = .ok (.iconst 1, 1) := by decide +kernel
theorem dX12_tellsItem_234 : decode cX12_tellsItem 234 = .ok (.goto 4, 3) := by decide +kernel
theorem dX12_tellsItem_237 : decode cX12_tellsItem 237 = .ok (.iconst 0, 1) := by decide +kernel
theorem dX12_tellsItem_238 : decode cX12_tellsItem 238 = .ok (.ireturn, 1) := by decide +kernel
theorem dX12_house_0 : decode cX12_house 0 = .ok (.aload_n 0, 1) := by decide +kernel
theorem dX12_house_1 : decode cX12_house 1 = .ok (.invokevirtual 240, 3) := by decide +kernel
theorem dX12_house_4 : decode cX12_house 4 = .ok (.ifCond .ne 11, 3) := by decide +kernel
theorem dX12_house_7 : decode cX12_house 7 = .ok (.bipush (-10), 2) := by decide +kernel
theorem dX12_house_9 : decode cX12_house 9 = .ok (.aload_n 0, 1) := by decide +kernel
theorem dX12_house_10 : decode cX12_house 10 = .ok (.getfield 190, 3) := by decide +kernel
theorem dX12_house_13 : decode cX12_house 13 = .ok (.isub, 1) := by decide +kernel
theorem dX12_house_14 : decode cX12_house 14 = .ok (.ireturn, 1) := by decide +kernel
theorem dX12_house_15 : decode cX12_house 15 = .ok (.iconst 0, 1) := by decide +kernel
theorem dX12_house_16 : decode cX12_house 16 = .ok (.istore_n 1, 1) := by decide +kernel
theorem dX12_house_17 : decode cX12_house 17 = .ok (.iload_n 1, 1) := by decide +kernel
theorem dX12_house_18 : decode cX12_house 18 = .ok (.sipush 172, 3) := by decide +kernel
theorem dX12_house_21 : decode cX12_house 21 = .ok (.if_icmp .ge 21, 3) := by decide +kernel
theorem dX12_house_24 : decode cX12_house 24 = .ok (.aload_n 0, 1) := by decide +kernel
theorem dX12_house_25 : decode cX12_house 25 = .ok (.getfield 20, 3) := by decide +kernel
theorem dX12_house_28 : decode cX12_house 28 = .ok (.iload_n 1, 1) := by decide +kernel
theorem dX12_house_29 : decode cX12_house 29 = .ok (.aload_n 0, 1) := by decide +kernel
theorem dX12_house_30 : decode cX12_house 30 = .ok (.getfield 7, 3) := by decide +kernel
theorem dX12_house_33 : decode cX12_house 33 = .ok (.iload_n 1, 1) := by decide +kernel
theorem dX12_house_34 : decode cX12_house 34 = .ok (.iaload, 1) := by decide +kernel
theorem dX12_house_35 : decode cX12_house 35 = .ok (.iastore, 1) := by decide +kernel
theorem dX12_house_36 : decode cX12_house 36 = .ok (.iinc 1 1, 3) := by decide +kernel
theorem dX12_house_39 : decode cX12_house 39 = .ok (.goto (-22), 3) := by decide +kernel
theorem dX12_house_42 : decode cX12_house 42 = .ok (.aload_n 0, 1) := by decide +kernel
theorem dX12_house_43 : decode cX12_house 43 = .ok (.invokevirtual 89, 3) := by decide +kernel
theorem dX12_house_46 : decode cX12_house 46 = .ok (.aload_n 0, 1) := by decide +kernel
theorem dX12_house_47 : decode cX12_house 47 = .ok (.iconst 1, 1) := by decide +kernel
theorem dX12_house_48 : decode cX12_house 48 = .ok (.putfield 96, 3) := by decide +kernel
theorem dX12_house_51 : decode cX12_house 51 = .ok (.iconst 0, 1) := by decide +kernel
theorem dX12_house_52 : decode cX12_house 52 = .ok (.istore_n 1, 1) := by decide +kernel
theorem dX12_house_53 : decode cX12_house 53 = .ok (.iload_n 1, 1) := by decide +kernel
theorem dX12_house_54 : decode cX12_house 54 = .ok (.aload_n 0, 1) := by decide +kernel
theorem dX12_house_55 : decode cX12_house 55 = .ok (.getfield 207, 3) := by decide +kernel
theorem dX12_house_58 : decode cX12_house 58 = .ok (.if_icmp .ge 17, 3) := by decide +kernel
theorem dX12_house_61 : decode cX12_house 61 = .ok (.aload_n 0, 1) := by decide +kernel
theorem dX12_house_62 : decode cX12_house 62 = .ok (.iload_n 1, 1) := by decide +kernel
theorem dX12_house_63 : decode cX12_house 63 = .ok (.invokevirtual 244, 3) := by decide +kernel
theorem dX12_house_66 : decode cX12_house 66 = .ok (.ifCond .eq 9, 3) := by decide +kernel
theorem dX12_house_69 : decode cX12_house 69 = .ok (.iinc 1 1, 3) := by decide +kernel
theorem dX12_house_72 : decode cX12_house 72 = .ok (.goto (-19), 3) := by decide +kernel
theorem dX12_house_75 : decode cX12_house 75 = .ok (.aload_n 0, 1) := by decide +kernel
theorem dX12_house_76 : decode cX12_house 76 = .ok (.iconst 0, 1) := by decide +kernel
theorem dX12_house_77 : decode cX12_house 77 = .ok (.putfield 96, 3) := by decide +kernel
theorem dX12_house_80 : decode cX12_house 80 = .ok (.iload_n 1, 1) := by decide +kernel
theorem dX12_house_81 : decode cX12_house 81 = .ok (.aload_n 0, 1) := by decide +kernel
theorem dX12_house_82 : decode cX12_house 82 = .ok (.getfield 207, 3) := by decide +kernel
theorem dX12_house_85 : decode cX12_house 85 = .ok (.if_icmp .ne 8, 3) := by decide +kernel
theorem dX12_house_88 : decode cX12_house 88 = .ok (.aload_n 0, 1) := by decide +kernel
theorem dX12_house_89 : decode cX12_house 89 = .ok (.getfield 207, 3) := by decide +kernel
theorem dX12_house_92 : decode cX12_house 92 = .ok (.ireturn, 1) := by decide +kernel
theorem dX12_house_93 : decode cX12_house 93 = .ok (.iconst 0, 1) := by decide +kernel
theorem dX12_house_94 : decode cX12_house 94 = .ok (.istore_n 2, 1) := by decide +kernel
theorem dX12_house_95 : decode cX12_house 95 = .ok (.iload_n 2, 1) := by decide +kernel
theorem dX12_house_96 : decode cX12_house 96 = .ok (.sipush 172, 3) := by decide +kernel
theorem dX12_house_99 : decode cX12_house 99 = .ok (.if_icmp .ge 21, 3) := by decide +kernel
theorem dX12_house_102 : decode cX12_house 102 = .ok (.aload_n 0, 1) := by decide +kernel
theorem dX12_house_103 : decode cX12_house 103 = .ok (.getfield 7, 3) := by decide +kernel
theorem dX12_house_106 : decode cX12_house 106 = .ok (.iload_n 2, 1) := by decide +kernel
theorem dX12_house_107 : decode cX12_house 107 = .ok (.aload_n 0, 1) := by decide +kernel
theorem dX12_house_108 : decode cX12_house 108 = .ok (.getfield 20, 3) := by decide +kernel
theorem dX12_house_111 : decode cX12_house 111 = .ok (.iload_n 2, 1) := by decide +kernel
theorem dX12_house_112 : decode cX12_house 112 = .ok (.iaload, 1) := by decide +kernel
theorem dX12_house_113 : decode cX12_house 113 = .ok (.iastore, 1) := by decide +kernel
theorem dX12_house_114 : decode cX12_house 114 = .ok (.iinc 2 1, 3) := by decide +kernel
theorem dX12_house_117 : decode cX12_house 117 = .ok (.goto (-22), 3) := by decide +kernel
theorem dX12_house_120 : decode cX12_house 120 = .ok (.sipush (-1000), 3) := by decide +kernel
theorem dX12_house_123 : decode cX12_house 123 = .ok (.iload_n 1, 1) := by decide +kernel
theorem dX12_house_124 : decode cX12_house 124 = .ok (.isub, 1) := by decide +kernel
theorem dX12_house_125 : decode cX12_house 125 = .ok (.ireturn, 1) := by decide +kernel
theorem dX12_beside_0 : decode cX12_beside 0 = .ok (.iload_n 1, 1) := by decide +kernel
theorem dX12_beside_1 : decode cX12_beside 1 = .ok (.bipush 6, 2) := by decide +kernel
theorem dX12_beside_3 : decode cX12_beside 3 = .ok (.idiv, 1) := by decide +kernel
theorem dX12_beside_4 : decode cX12_beside 4 = .ok (.iload_n 2, 1) := by decide +kernel
theorem dX12_beside_5 : decode cX12_beside 5 = .ok (.ifCond .ne 7, 3) := by decide +kernel
theorem dX12_beside_8 : decode cX12_beside 8 = .ok (.iconst (-1), 1) := by decide +kernel
theorem dX12_beside_9 : decode cX12_beside 9 = .ok (.goto 13, 3) := by decide +kernel
theorem dX12_beside_12 : decode cX12_beside 12 = .ok (.iload_n 2, 1) := by decide +kernel
theorem dX12_beside_13 : decode cX12_beside 13 = .ok (.iconst 2, 1) := by decide +kernel
theorem dX12_beside_14 : decode cX12_beside 14 = .ok (.if_icmp .ne 7, 3) := by decide +kernel
theorem dX12_beside_17 : decode cX12_beside 17 = .ok (.iconst 1, 1) := by decide +kernel
theorem dX12_beside_18 : decode cX12_beside 18 = .ok (.goto 4, 3) := by decide +kernel
theorem dX12_beside_21 : decode cX12_beside 21 = .ok (.iconst 0, 1) := by decide +kernel
theorem dX12_beside_22 : decode cX12_beside 22 = .ok (.iadd, 1) := by decide +kernel
theorem dX12_beside_23 : decode cX12_beside 23 = .ok (.istore_n 3, 1) := by decide +kernel
theorem dX12_beside_24 : decode cX12_beside 24 = .ok (.iload_n 1, 1) := by decide +kernel
theorem dX12_beside_25 : decode cX12_beside 25 = .ok (.bipush 6, 2) := by decide +kernel
theorem dX12_beside_27 : decode cX12_beside 27 = .ok (.irem, 1) := by decide +kernel
theorem dX12_beside_28 : decode cX12_beside 28 = .ok (.iload_n 2, 1) := by decide +kernel
theorem dX12_beside_29 : decode cX12_beside 29 = .ok (.iconst 1, 1) := by decide +kernel
theorem dX12_beside_30 : decode cX12_beside 30 = .ok (.if_icmp .ne 7, 3) := by decide +kernel
theorem dX12_beside_33 : decode cX12_beside 33 = .ok (.iconst 1, 1) := by decide +kernel
theorem dX12_beside_34 : decode cX12_beside 34 = .ok (.goto 13, 3) := by decide +kernel
theorem dX12_beside_37 : decode cX12_beside 37 = .ok (.iload_n 2, 1) := by decide +kernel
theorem dX12_beside_38 : decode cX12_beside 38 = .ok (.iconst 3, 1) := by decide +kernel
theorem dX12_beside_39 : decode cX12_beside 39 = .ok (.if_icmp .ne 7, 3) := by decide +kernel
theorem dX12_beside_42 : decode cX12_beside 42 = .ok (.iconst (-1), 1) := by decide +kernel
theorem dX12_beside_43 : decode cX12_beside 43 = .ok (.goto 4, 3) := by decide +kernel
theorem dX12_beside_46 : decode cX12_beside 46 = .ok (.iconst 0, 1) := by decide +kernel
theorem dX12_beside_47 : decode cX12_beside 47 = .ok (.iadd, 1) := by decide +kernel
theorem dX12_beside_48 : decode cX12_beside 48 = .ok (.istore 4, 2) := by decide +kernel
theorem dX12_beside_50 : decode cX12_beside 50 = .ok (.iload_n 3, 1) := by decide +kernel
theorem dX12_beside_51 : decode cX12_beside 51 = .ok (.i2l, 1) := by decide +kernel
theorem dX12_beside_52 : decode cX12_beside 52 = .ok (.lconst 0, 1) := by decide +kernel
theorem dX12_beside_53 : decode cX12_beside 53 = .ok (.ldc2_w 247, 3) := by decide +kernel
theorem dX12_beside_56 : decode cX12_beside 56 = .ok (.invokestatic 106, 3) := by decide +kernel
theorem dX12_beside_59 : decode cX12_beside 59 = .ok (.ifCond .eq 30, 3) := by decide +kernel
theorem dX12_beside_62 : decode cX12_beside 62 = .ok (.iload 4, 2) := by decide +kernel
theorem dX12_beside_64 : decode cX12_beside 64 = .ok (.i2l, 1) := by decide +kernel
theorem dX12_beside_65 : decode cX12_beside 65 = .ok (.lconst 0, 1) := by decide +kernel
theorem dX12_beside_66 : decode cX12_beside 66 = .ok (.ldc2_w 247, 3) := by decide +kernel
theorem dX12_beside_69 : decode cX12_beside 69 = .ok (.invokestatic 106, 3) := by decide +kernel
theorem dX12_beside_72 : decode cX12_beside 72 = .ok (.ifCond .eq 17, 3) := by decide +kernel
theorem dX12_beside_75 : decode cX12_beside 75 = .ok (.aload_n 0, 1) := by decide +kernel
theorem dX12_beside_76 : decode cX12_beside 76 = .ok (.bipush 6, 2) := by decide +kernel
theorem dX12_beside_78 : decode cX12_beside 78 = .ok (.iload_n 3, 1) := by decide +kernel
theorem dX12_beside_79 : decode cX12_beside 79 = .ok (.imul, 1) := by decide +kernel
theorem dX12_beside_80 : decode cX12_beside 80 = .ok (.iload 4, 2) := by decide +kernel
theorem dX12_beside_82 : decode cX12_beside 82 = .ok (.iadd, 1) := by decide +kernel
theorem dX12_beside_83 : decode cX12_beside 83 = .ok (.invokevirtual 121, 3) := by decide +kernel
theorem dX12_beside_86 : decode cX12_beside 86 = .ok (.ifCond .eq 5, 3) := by decide +kernel
theorem dX12_beside_89 : decode cX12_beside 89 = .ok (.iconst (-1), 1) := by decide +kernel
theorem dX12_beside_90 : decode cX12_beside 90 = .ok (.ireturn, 1) := by decide +kernel
theorem dX12_beside_91 : decode cX12_beside 91 = .ok (.bipush 6, 2) := by decide +kernel
theorem dX12_beside_93 : decode cX12_beside 93 = .ok (.iload_n 3, 1) := by decide +kernel
theorem dX12_beside_94 : decode cX12_beside 94 = .ok (.imul, 1) := by decide +kernel
theorem dX12_beside_95 : decode cX12_beside 95 = .ok (.iload 4, 2) := by decide +kernel
theorem dX12_beside_97 : decode cX12_beside 97 = .ok (.iadd, 1) := by decide +kernel
theorem dX12_beside_98 : decode cX12_beside 98 = .ok (.ireturn, 1) := by decide +kernel
theorem dX12_looks_0 : decode cX12_looks 0 = .ok (.iconst 0, 1) := by decide +kernel
theorem dX12_looks_1 : decode cX12_looks 1 = .ok (.istore_n 1, 1) := by decide +kernel
theorem dX12_looks_2 : decode cX12_looks 2 = .ok (.iload_n 1, 1) := by decide +kernel
theorem dX12_looks_3 : decode cX12_looks 3 = .ok (.bipush 36, 2) := by decide +kernel
theorem dX12_looks_5 : decode cX12_looks 5 = .ok (.if_icmp .ge 189, 3) := by decide +kernel
theorem dX12_looks_8 : decode cX12_looks 8 = .ok (.iconst 0, 1) := by decide +kernel
theorem dX12_looks_9 : decode cX12_looks 9 = .ok (.istore_n 2, 1) := by decide +kernel
theorem dX12_looks_10 : decode cX12_looks 10 = .ok (.iload_n 2, 1) := by decide +kernel
theorem dX12_looks_11 : decode cX12_looks 11 = .ok (.bipush 36, 2) := by decide +kernel
theorem dX12_looks_13 : decode cX12_looks 13 = .ok (.if_icmp .ge 40, 3) := by decide +kernel
theorem dX12_looks_16 : decode cX12_looks 16 = .ok (.aload_n 0, 1) := by decide +kernel
theorem dX12_looks_17 : decode cX12_looks 17 = .ok (.getfield 35, 3) := by decide +kernel
theorem dX12_looks_20 : decode cX12_looks 20 = .ok (.bipush 36, 2) := by decide +kernel
theorem dX12_looks_22 : decode cX12_looks 22 = .ok (.iload_n 1, 1) := by decide +kernel
theorem dX12_looks_23 : decode cX12_looks 23 = .ok (.imul, 1) := by decide +kernel
theorem dX12_looks_24 : decode cX12_looks 24 = .ok (.iload_n 2, 1) := by decide +kernel
theorem dX12_looks_25 : decode cX12_looks 25 = .ok (.iadd, 1) := by decide +kernel
theorem dX12_looks_26 : decode cX12_looks 26 = .ok (.iload_n 1, 1) := by decide +kernel
theorem dX12_looks_27 : decode cX12_looks 27 = .ok (.iload_n 2, 1) := by decide +kernel
theorem dX12_looks_28 : decode cX12_looks 28 = .ok (.if_icmp .ne 15, 3) := by decide +kernel
theorem dX12_looks_31 : decode cX12_looks 31 = .ok (.aload_n 0, 1) := by decide +kernel
theorem dX12_looks_32 : decode cX12_looks 32 = .ok (.iload_n 1, 1) := by decide +kernel
theorem dX12_looks_33 : decode cX12_looks 33 = .ok (.invokevirtual 121, 3) := by decide +kernel
theorem dX12_looks_36 : decode cX12_looks 36 = .ok (.ifCond .ne 7, 3) := by decide +kernel
theorem dX12_looks_39 : decode cX12_looks 39 = .ok (.iconst 0, 1) := by decide +kernel
theorem dX12_looks_40 : decode cX12_looks 40 = .ok (.goto 6, 3) := by decide +kernel
theorem dX12_looks_43 : decode cX12_looks 43 = .ok (.sipush 1000, 3) := by decide +kernel
theorem dX12_looks_46 : decode cX12_looks 46 = .ok (.iastore, 1) := by decide +kernel
theorem dX12_looks_47 : decode cX12_looks 47 = .ok (.iinc 2 1, 3) := by decide +kernel
theorem dX12_looks_50 : decode cX12_looks 50 = .ok (.goto (-40), 3) := by decide +kernel
theorem dX12_looks_53 : decode cX12_looks 53 = .ok (.aload_n 0, 1) := by decide +kernel
theorem dX12_looks_54 : decode cX12_looks 54 = .ok (.iload_n 1, 1) := by decide +kernel
theorem dX12_looks_55 : decode cX12_looks 55 = .ok (.invokevirtual 121, 3) := by decide +kernel
theorem dX12_looks_58 : decode cX12_looks 58 = .ok (.ifCond .ne 7, 3) := by decide +kernel
theorem dX12_looks_61 : decode cX12_looks 61 = .ok (.iconst 1, 1) := by decide +kernel
theorem dX12_looks_62 : decode cX12_looks 62 = .ok (.goto 4, 3) := by decide +kernel
theorem dX12_looks_65 : decode cX12_looks 65 = .ok (.iconst 0, 1) := by decide +kernel
theorem dX12_looks_66 : decode cX12_looks 66 = .ok (.istore_n 2, 1) := by decide +kernel
theorem dX12_looks_67 : decode cX12_looks 67 = .ok (.iconst 0, 1) := by decide +kernel
theorem dX12_looks_68 : decode cX12_looks 68 = .ok (.istore_n 3, 1) := by decide +kernel
theorem dX12_looks_69 : decode cX12_looks 69 = .ok (.iload_n 2, 1) := by decide +kernel
theorem dX12_looks_70 : decode cX12_looks 70 = .ok (.ifCond .eq 118, 3) := by decide +kernel
theorem dX12_looks_73 : decode cX12_looks 73 = .ok (.iconst 0, 1) := by decide +kernel
theorem dX12_looks_74 : decode cX12_looks 74 = .ok (.istore_n 2, 1) := by decide +kernel
theorem dX12_looks_75 : decode cX12_looks 75 = .ok (.iconst 0, 1) := by decide +kernel
theorem dX12_looks_76 : decode cX12_looks 76 = .ok (.istore 4, 2) := by decide +kernel
theorem dX12_looks_78 : decode cX12_looks 78 = .ok (.iload 4, 2) := by decide +kernel
theorem dX12_looks_80 : decode cX12_looks 80 = .ok (.bipush 36, 2) := by decide +kernel
theorem dX12_looks_82 : decode cX12_looks 82 = .ok (.if_icmp .ge 100, 3) := by decide +kernel
theorem dX12_looks_85 : decode cX12_looks 85 = .ok (.iconst 0, 1) := by decide +kernel
theorem dX12_looks_86 : decode cX12_looks 86 = .ok (.istore 5, 2) := by decide +kernel
theorem dX12_looks_88 : decode cX12_looks 88 = .ok (.iload 5, 2) := by decide +kernel
theorem dX12_looks_90 : decode cX12_looks 90 = .ok (.iconst 4, 1) := by decide +kernel
theorem dX12_looks_91 : decode cX12_looks 91 = .ok (.if_icmp .ge 85, 3) := by decide +kernel
theorem dX12_looks_94 : decode cX12_looks 94 = .ok (.aload_n 0, 1) := by decide +kernel
theorem dX12_looks_95 : decode cX12_looks 95 = .ok (.getfield 35, 3) := by decide +kernel
theorem dX12_looks_98 : decode cX12_looks 98 = .ok (.bipush 36, 2) := by decide +kernel
theorem dX12_looks_100 : decode cX12_looks 100 = .ok (.iload_n 1, 1) := by decide +kernel
theorem dX12_looks_101 : decode cX12_looks 101 = .ok (.imul, 1) := by decide +kernel
theorem dX12_looks_102 : decode cX12_looks 102 = .ok (.iload 4, 2) := by decide +kernel
theorem dX12_looks_104 : decode cX12_looks 104 = .ok (.iadd, 1) := by decide +kernel
theorem dX12_looks_105 : decode cX12_looks 105 = .ok (.iaload, 1) := by decide +kernel
theorem dX12_looks_106 : decode cX12_looks 106 = .ok (.iload_n 3, 1) := by decide +kernel
theorem dX12_looks_107 : decode cX12_looks 107 = .ok (.if_icmp .ne 69, 3) := by decide +kernel
theorem dX12_looks_110 : decode cX12_looks 110 = .ok (.aload_n 0, 1) := by decide +kernel
theorem dX12_looks_111 : decode cX12_looks 111 = .ok (.iload 4, 2) := by decide +kernel
theorem dX12_looks_113 : decode cX12_looks 113 = .ok (.iload 5, 2) := by decide +kernel
theorem dX12_looks_115 : decode cX12_looks 115 = .ok (.invokevirtual 249, 3) := by decide +kernel
theorem dX12_looks_118 : decode cX12_looks 118 = .ok (.istore 6, 2) := by decide +kernel
theorem dX12_looks_120 : decode cX12_looks 120 = .ok (.iload 6, 2) := by decide +kernel
theorem dX12_looks_122 : decode cX12_looks 122 = .ok (.iconst (-1), 1) := by decide +kernel
theorem dX12_looks_123 : decode cX12_looks 123 = .ok (.if_icmp .eq 47, 3) := by decide +kernel
theorem dX12_looks_126 : decode cX12_looks 126 = .ok (.aload_n 0, 1) := by decide +kernel
theorem dX12_looks_127 : decode cX12_looks 127 = .ok (.getfield 35, 3) := by decide +kernel
theorem dX12_looks_130 : decode cX12_looks 130 = .ok (.bipush 36, 2) := by decide +kernel
theorem dX12_looks_132 : decode cX12_looks 132 = .ok (.iload_n 1, 1) := by decide +kernel
theorem dX12_looks_133 : decode cX12_looks 133 = .ok (.imul, 1) := by decide +kernel
theorem dX12_looks_134 : decode cX12_looks 134 = .ok (.iload 6, 2) := by decide +kernel
theorem dX12_looks_136 : decode cX12_looks 136 = .ok (.ifCond .ge 7, 3) := by decide +kernel
theorem dX12_looks_139 : decode cX12_looks 139 = .ok (.iconst 0, 1) := by decide +kernel
theorem dX12_looks_140 : decode cX12_looks 140 = .ok (.goto 5, 3) := by decide +kernel
theorem dX12_looks_143 : decode cX12_looks 143 = .ok (.iload 6, 2) := by decide +kernel
theorem dX12_looks_145 : decode cX12_looks 145 = .ok (.iadd, 1) := by decide +kernel
theorem dX12_looks_146 : decode cX12_looks 146 = .ok (.iaload, 1) := by decide +kernel
theorem dX12_looks_147 : decode cX12_looks 147 = .ok (.sipush 1000, 3) := by decide +kernel
theorem dX12_looks_150 : decode cX12_looks 150 = .ok (.if_icmp .ne 20, 3) := by decide +kernel
theorem dX12_looks_153 : decode cX12_looks 153 = .ok (.aload_n 0, 1) := by decide +kernel
theorem dX12_looks_154 : decode cX12_looks 154 = .ok (.getfield 35, 3) := by decide +kernel
theorem dX12_looks_157 : decode cX12_looks 157 = .ok (.bipush 36, 2) := by decide +kernel
theorem dX12_looks_159 : decode cX12_looks 159 = .ok (.iload_n 1, 1) := by decide +kernel
theorem dX12_looks_160 : decode cX12_looks 160 = .ok (.imul, 1) := by decide +kernel
theorem dX12_looks_161 : decode cX12_looks 161 = .ok (.iload 6, 2) := by decide +kernel
theorem dX12_looks_163 : decode cX12_looks 163 = .ok (.iadd, 1) := by decide +kernel
theorem dX12_looks_164 : decode cX12_looks 164 = .ok (.iload_n 3, 1) := by decide +kernel
theorem dX12_looks_165 : decode cX12_looks 165 = .ok (.iconst 1, 1) := by decide +kernel
theorem dX12_looks_166 : decode cX12_looks 166 = .ok (.iadd, 1) := by decide +kernel
theorem dX12_looks_167 : decode cX12_looks 167 = .ok (.iastore, 1) := by decide +kernel
theorem dX12_looks_168 : decode cX12_looks 168 = .ok (.iconst 1, 1) := by decide +kernel
theorem dX12_looks_169 : decode cX12_looks 169 = .ok (.istore_n 2, 1) := by decide +kernel
theorem dX12_looks_170 : decode cX12_looks 170 = .ok (.iinc 5 1, 3) := by decide +kernel
theorem dX12_looks_173 : decode cX12_looks 173 = .ok (.goto (-85), 3) := by decide +kernel
theorem dX12_looks_176 : decode cX12_looks 176 = .ok (.iinc 4 1, 3) := by decide +kernel
theorem dX12_looks_179 : decode cX12_looks 179 = .ok (.goto (-101), 3) := by decide +kernel
theorem dX12_looks_182 : decode cX12_looks 182 = .ok (.iinc 3 1, 3) := by decide +kernel
theorem dX12_looks_185 : decode cX12_looks 185 = .ok (.goto (-116), 3) := by decide +kernel
theorem dX12_looks_188 : decode cX12_looks 188 = .ok (.iinc 1 1, 3) := by decide +kernel
theorem dX12_looks_191 : decode cX12_looks 191 = .ok (.goto (-189), 3) := by decide +kernel
theorem dX12_looks_194 : decode cX12_looks 194 = .ok (.return_, 1) := by decide +kernel
theorem dX12_cover_0 : decode cX12_cover 0 = .ok (.aload_n 0, 1) := by decide +kernel
theorem dX12_cover_1 : decode cX12_cover 1 = .ok (.getfield 252, 3) := by decide +kernel
theorem dX12_cover_4 : decode cX12_cover 4 = .ok (.istore_n 2, 1) := by decide +kernel
theorem dX12_cover_5 : decode cX12_cover 5 = .ok (.iconst 0, 1) := by decide +kernel
theorem dX12_cover_6 : decode cX12_cover 6 = .ok (.istore_n 3, 1) := by decide +kernel
theorem dX12_cover_7 : decode cX12_cover 7 = .ok (.iload_n 3, 1) := by decide +kernel
theorem dX12_cover_8 : decode cX12_cover 8 = .ok (.aload_n 0, 1) := by decide +kernel
theorem dX12_cover_9 : decode cX12_cover 9 = .ok (.getfield 7, 3) := by decide +kernel
theorem dX12_cover_12 : decode cX12_cover 12 = .ok (.iconst 3, 1) := by decide +kernel
theorem dX12_cover_13 : decode cX12_cover 13 = .ok (.iaload, 1) := by decide +kernel
theorem dX12_cover_14 : decode cX12_cover 14 = .ok (.if_icmp .ge 72, 3) := by decide +kernel
theorem dX12_cover_17 : decode cX12_cover 17 = .ok (.bipush 120, 2) := by decide +kernel
theorem dX12_cover_19 : decode cX12_cover 19 = .ok (.iconst 5, 1) := by decide +kernel
theorem dX12_cover_20 : decode cX12_cover 20 = .ok (.iload_n 3, 1) := by decide +kernel
theorem dX12_cover_21 : decode cX12_cover 21 = .ok (.imul, 1) := by decide +kernel
theorem dX12_cover_22 : decode cX12_cover 22 = .ok (.iadd, 1) := by decide +kernel
theorem dX12_cover_23 : decode cX12_cover 23 = .ok (.istore 4, 2) := by decide +kernel
theorem dX12_cover_25 : decode cX12_cover 25 = .ok (.iload_n 2, 1) := by decide +kernel
theorem dX12_cover_26 : decode cX12_cover 26 = .ok (.aload_n 0, 1) := by decide +kernel
theorem dX12_cover_27 : decode cX12_cover 27 = .ok (.getfield 7, 3) := by decide +kernel
theorem dX12_cover_30 : decode cX12_cover 30 = .ok (.iload 4, 2) := by decide +kernel
theorem dX12_cover_32 : decode cX12_cover 32 = .ok (.iaload, 1) := by decide +kernel
theorem dX12_cover_33 : decode cX12_cover 33 = .ok (.iconst 4, 1) := by decide +kernel
theorem dX12_cover_34 : decode cX12_cover 34 = .ok (.if_icmp .ne 43, 3) := by decide +kernel
theorem dX12_cover_37 : decode cX12_cover 37 = .ok (.iload_n 1, 1) := by decide +kernel
theorem dX12_cover_38 : decode cX12_cover 38 = .ok (.i2l, 1) := by decide +kernel
theorem dX12_cover_39 : decode cX12_cover 39 = .ok (.aload_n 0, 1) := by decide +kernel
theorem dX12_cover_40 : decode cX12_cover 40 = .ok (.getfield 7, 3) := by decide +kernel
theorem dX12_cover_43 : decode cX12_cover 43 = .ok (.iload 4, 2) := by decide +kernel
theorem dX12_cover_45 : decode cX12_cover 45 = .ok (.iconst 2, 1) := by decide +kernel
theorem dX12_cover_46 : decode cX12_cover 46 = .ok (.iadd, 1) := by decide +kernel
theorem dX12_cover_47 : decode cX12_cover 47 = .ok (.iaload, 1) := by decide +kernel
theorem dX12_cover_48 : decode cX12_cover 48 = .ok (.i2l, 1) := by decide +kernel
theorem dX12_cover_49 : decode cX12_cover 49 = .ok (.aload_n 0, 1) := by decide +kernel
theorem dX12_cover_50 : decode cX12_cover 50 = .ok (.getfield 7, 3) := by decide +kernel
theorem dX12_cover_53 : decode cX12_cover 53 = .ok (.iload 4, 2) := by decide +kernel
theorem dX12_cover_55 : decode cX12_cover 55 = .ok (.iconst 3, 1) := by decide +kernel
theorem dX12_cover_56 : decode cX12_cover 56 = .ok (.iadd, 1) := by decide +kernel
theorem dX12_cover_57 : decode cX12_cover 57 = .ok (.iaload, 1) := by decide +kernel
theorem dX12_cover_58 : decode cX12_cover 58 = .ok (.i2l, 1) := by decide +kernel
theorem dX12_cover_59 : decode cX12_cover 59 = .ok (.invokestatic 106, 3) := by decide +kernel
theorem dX12_cover_62 : decode cX12_cover 62 = .ok (.ifCond .eq 15, 3) := by decide +kernel
theorem dX12_cover_65 : decode cX12_cover 65 = .ok (.aload_n 0, 1) := by decide +kernel
theorem dX12_cover_66 : decode cX12_cover 66 = .ok (.getfield 7, 3) := by decide +kernel
theorem dX12_cover_69 : decode cX12_cover 69 = .ok (.iload 4, 2) := by decide +kernel
theorem dX12_cover_71 : decode cX12_cover 71 = .ok (.iconst 4, 1) := by decide +kernel
theorem dX12_cover_72 : decode cX12_cover 72 = .ok (.iadd, 1) := by decide +kernel
theorem dX12_cover_73 : decode cX12_cover 73 = .ok (.iaload, 1) := by decide +kernel
theorem dX12_cover_74 : decode cX12_cover 74 = .ok (.goto 4, 3) := by decide +kernel
theorem dX12_cover_77 : decode cX12_cover 77 = .ok (.iconst 0, 1) := by decide +kernel
theorem dX12_cover_78 : decode cX12_cover 78 = .ok (.iadd, 1) := by decide +kernel
theorem dX12_cover_79 : decode cX12_cover 79 = .ok (.istore_n 2, 1) := by decide +kernel
theorem dX12_cover_80 : decode cX12_cover 80 = .ok (.iinc 3 1, 3) := by decide +kernel
theorem dX12_cover_83 : decode cX12_cover 83 = .ok (.goto (-76), 3) := by decide +kernel
theorem dX12_cover_86 : decode cX12_cover 86 = .ok (.iload_n 2, 1) := by decide +kernel
theorem dX12_cover_87 : decode cX12_cover 87 = .ok (.ireturn, 1) := by decide +kernel
theorem dX12_heardAt_0 : decode cX12_heardAt 0 = .ok (.aload_n 0, 1) := by decide +kernel
theorem dX12_heardAt_1 : decode cX12_heardAt 1 = .ok (.getfield 35, 3) := by decide +kernel
theorem dX12_heardAt_4 : decode cX12_heardAt 4 = .ok (.bipush 36, 2) := by decide +kernel
theorem dX12_heardAt_6 : decode cX12_heardAt 6 = .ok (.iload_n 1, 1) := by decide +kernel
theorem dX12_heardAt_7 : decode cX12_heardAt 7 = .ok (.imul, 1) := by decide +kernel
theorem dX12_heardAt_8 : decode cX12_heardAt 8 = .ok (.iload_n 3, 1) := by decide +kernel
theorem dX12_heardAt_9 : decode cX12_heardAt 9 = .ok (.iadd, 1) := by decide +kernel
theorem dX12_heardAt_10 : decode cX12_heardAt 10 = .ok (.iaload, 1) := by decide +kernel
theorem dX12_heardAt_11 : decode cX12_heardAt 11 = .ok (.istore 5, 2) := by decide +kernel
theorem dX12_heardAt_13 : decode cX12_heardAt 13 = .ok (.iload_n 2, 1) := by decide +kernel
theorem dX12_heardAt_14 : decode cX12_heardAt 14 = .ok (.aload_n 0, 1) := by decide +kernel
theorem dX12_heardAt_15 : decode cX12_heardAt 15 = .ok (.getfield 7, 3) := by decide +kernel
theorem dX12_heardAt_18 : decode cX12_heardAt 18 = .ok (.iconst 5, 1) := by decide +kernel
theorem dX12_heardAt_19 : decode cX12_heardAt 19 = .ok (.iaload, 1) := by decide +kernel
theorem dX12_heardAt_20 : decode cX12_heardAt 20 = .ok (.iload 5, 2) := by decide +kernel
theorem dX12_heardAt_22 : decode cX12_heardAt 22 = .ok (.imul, 1) := by decide +kernel
theorem dX12_heardAt_23 : decode cX12_heardAt 23 = .ok (.isub, 1) := by decide +kernel
theorem dX12_heardAt_24 : decode cX12_heardAt 24 = .ok (.iload 4, 2) := by decide +kernel
theorem dX12_heardAt_26 : decode cX12_heardAt 26 = .ok (.isub, 1) := by decide +kernel
theorem dX12_heardAt_27 : decode cX12_heardAt 27 = .ok (.istore 6, 2) := by decide +kernel
theorem dX12_heardAt_29 : decode cX12_heardAt 29 = .ok (.iload 5, 2) := by decide +kernel
theorem dX12_heardAt_31 : decode cX12_heardAt 31 = .ok (.sipush 1000, 3) := by decide +kernel
theorem dX12_heardAt_34 : decode cX12_heardAt 34 = .ok (.if_icmp .eq 8, 3) := by decide +kernel
theorem dX12_heardAt_37 : decode cX12_heardAt 37 = .ok (.iload 6, 2) := by decide +kernel
theorem dX12_heardAt_39 : decode cX12_heardAt 39 = .ok (.ifCond .ge 7, 3) := by decide +kernel
theorem dX12_heardAt_42 : decode cX12_heardAt 42 = .ok (.iconst 0, 1) := by decide +kernel
theorem dX12_heardAt_43 : decode cX12_heardAt 43 = .ok (.goto 5, 3) := by decide +kernel
theorem dX12_heardAt_46 : decode cX12_heardAt 46 = .ok (.iload 6, 2) := by decide +kernel
theorem dX12_heardAt_48 : decode cX12_heardAt 48 = .ok (.ireturn, 1) := by decide +kernel
theorem dX12_distance_0 : decode cX12_distance 0 = .ok (.iload_n 1, 1) := by decide +kernel
theorem dX12_distance_1 : decode cX12_distance 1 = .ok (.invokestatic 110, 3) := by decide +kernel
theorem dX12_distance_4 : decode cX12_distance 4 = .ok (.ifCond .eq 10, 3) := by decide +kernel
theorem dX12_distance_7 : decode cX12_distance 7 = .ok (.iload_n 2, 1) := by decide +kernel
theorem dX12_distance_8 : decode cX12_distance 8 = .ok (.invokestatic 110, 3) := by decide +kernel
theorem dX12_distance_11 : decode cX12_distance 11 = .ok (.ifCond .ne 8, 3) := by decide +kernel
theorem dX12_distance_14 : decode cX12_distance 14 = .ok (.aload_n 0, 1) := by decide +kernel
theorem dX12_distance_15 : decode cX12_distance 15 = .ok (.invokevirtual 117, 3) := by decide +kernel
theorem dX12_distance_18 : decode cX12_distance 18 = .ok (.ireturn, 1) := by decide +kernel
theorem dX12_distance_19 : decode cX12_distance 19 = .ok (.aload_n 0, 1) := by decide +kernel
theorem dX12_distance_20 : decode cX12_distance 20 = .ok (.invokevirtual 255, 3) := by decide +kernel
theorem dX12_distance_23 : decode cX12_distance 23 = .ok (.aload_n 0, 1) := by decide +kernel
theorem dX12_distance_24 : decode cX12_distance 24 = .ok (.getfield 35, 3) := by decide +kernel
theorem dX12_distance_27 : decode cX12_distance 27 = .ok (.bipush 36, 2) := by decide +kernel
theorem dX12_distance_29 : decode cX12_distance 29 = .ok (.iload_n 1, 1) := by decide +kernel
theorem dX12_distance_30 : decode cX12_distance 30 = .ok (.imul, 1) := by decide +kernel
theorem dX12_distance_31 : decode cX12_distance 31 = .ok (.iload_n 2, 1) := by decide +kernel
theorem dX12_distance_32 : decode cX12_distance 32 = .ok (.iadd, 1) := by decide +kernel
theorem dX12_distance_33 : decode cX12_distance 33 = .ok (.iaload, 1) := by decide +kernel
theorem dX12_distance_34 : decode cX12_distance 34 = .ok (.sipush 1000, 3) := by decide +kernel
theorem dX12_distance_37 : decode cX12_distance 37 = .ok (.if_icmp .ne 7, 3) := by decide +kernel
theorem dX12_distance_40 : decode cX12_distance 40 = .ok (.iconst (-1), 1) := by decide +kernel
theorem dX12_distance_41 : decode cX12_distance 41 = .ok (.goto 14, 3) := by decide +kernel
theorem dX12_distance_44 : decode cX12_distance 44 = .ok (.aload_n 0, 1) := by decide +kernel
theorem dX12_distance_45 : decode cX12_distance 45 = .ok (.getfield 35, 3) := by decide +kernel
theorem dX12_distance_48 : decode cX12_distance 48 = .ok (.bipush 36, 2) := by decide +kernel
theorem dX12_distance_50 : decode cX12_distance 50 = .ok (.iload_n 1, 1) := by decide +kernel
theorem dX12_distance_51 : decode cX12_distance 51 = .ok (.imul, 1) := by decide +kernel
theorem dX12_distance_52 : decode cX12_distance 52 = .ok (.iload_n 2, 1) := by decide +kernel
theorem dX12_distance_53 : decode cX12_distance 53 = .ok (.iadd, 1) := by decide +kernel
theorem dX12_distance_54 : decode cX12_distance 54 = .ok (.iaload, 1) := by decide +kernel
theorem dX12_distance_55 : decode cX12_distance 55 = .ok (.ireturn, 1) := by decide +kernel
theorem dX12_heard_0 : decode cX12_heard 0 = .ok (.iload_n 1, 1) := by decide +kernel
theorem dX12_heard_1 : decode cX12_heard 1 = .ok (.invokestatic 110, 3) := by decide +kernel
theorem dX12_heard_4 : decode cX12_heard 4 = .ok (.ifCond .eq 35, 3) := by decide +kernel
theorem dX12_heard_7 : decode cX12_heard 7 = .ok (.iload_n 2, 1) := by decide +kernel
theorem dX12_heard_8 : decode cX12_heard 8 = .ok (.i2l, 1) := by decide +kernel
theorem dX12_heard_9 : decode cX12_heard 9 = .ok (.lconst 0, 1) := by decide +kernel
theorem dX12_heard_10 : decode cX12_heard 10 = .ok (.ldc2_w 137, 3) := by decide +kernel
theorem dX12_heard_13 : decode cX12_heard 13 = .ok (.invokestatic 106, 3) := by decide +kernel
theorem dX12_heard_16 : decode cX12_heard 16 = .ok (.ifCond .eq 23, 3) := by decide +kernel
theorem dX12_heard_19 : decode cX12_heard 19 = .ok (.iload_n 3, 1) := by decide +kernel
theorem dX12_heard_20 : decode cX12_heard 20 = .ok (.invokestatic 110, 3) := by decide +kernel
theorem dX12_heard_23 : decode cX12_heard 23 = .ok (.ifCond .eq 16, 3) := by decide +kernel
theorem dX12_heard_26 : decode cX12_heard 26 = .ok (.iload 4, 2) := by decide +kernel
theorem dX12_heard_28 : decode cX12_heard 28 = .ok (.i2l, 1) := by decide +kernel
theorem dX12_heard_29 : decode cX12_heard 29 = .ok (.lconst 0, 1) := by decide +kernel
theorem dX12_heard_30 : decode cX12_heard 30 = .ok (.ldc2_w 139, 3) := by decide +kernel
theorem dX12_heard_33 : decode cX12_heard 33 = .ok (.invokestatic 106, 3) := by decide +kernel
theorem dX12_heard_36 : decode cX12_heard 36 = .ok (.ifCond .ne 8, 3) := by decide +kernel
theorem dX12_heard_39 : decode cX12_heard 39 = .ok (.aload_n 0, 1) := by decide +kernel
theorem dX12_heard_40 : decode cX12_heard 40 = .ok (.invokevirtual 117, 3) := by decide +kernel
theorem dX12_heard_43 : decode cX12_heard 43 = .ok (.ireturn, 1) := by decide +kernel
theorem dX12_heard_44 : decode cX12_heard 44 = .ok (.aload_n 0, 1) := by decide +kernel
theorem dX12_heard_45 : decode cX12_heard 45 = .ok (.invokevirtual 255, 3) := by decide +kernel
theorem dX12_heard_48 : decode cX12_heard 48 = .ok (.aload_n 0, 1) := by decide +kernel
theorem dX12_heard_49 : decode cX12_heard 49 = .ok (.iload_n 1, 1) := by decide +kernel
theorem dX12_heard_50 : decode cX12_heard 50 = .ok (.iload_n 2, 1) := by decide +kernel
theorem dX12_heard_51 : decode cX12_heard 51 = .ok (.iload_n 3, 1) := by decide +kernel
theorem dX12_heard_52 : decode cX12_heard 52 = .ok (.aload_n 0, 1) := by decide +kernel
theorem dX12_heard_53 : decode cX12_heard 53 = .ok (.iload 4, 2) := by decide +kernel
theorem dX12_heard_55 : decode cX12_heard 55 = .ok (.invokevirtual 258, 3) := by decide +kernel
theorem dX12_heard_58 : decode cX12_heard 58 = .ok (.invokevirtual 261, 3) := by decide +kernel
theorem dX12_heard_61 : decode cX12_heard 61 = .ok (.ireturn, 1) := by decide +kernel
theorem dX12_noise_0 : decode cX12_noise 0 = .ok (.aload_n 0, 1) := by decide +kernel
theorem dX12_noise_1 : decode cX12_noise 1 = .ok (.getfield 62, 3) := by decide +kernel
theorem dX12_noise_4 : decode cX12_noise 4 = .ok (.aload_n 0, 1) := by decide +kernel
theorem dX12_noise_5 : decode cX12_noise 5 = .ok (.getfield 265, 3) := by decide +kernel
theorem dX12_noise_8 : decode cX12_noise 8 = .ok (.iload_n 1, 1) := by decide +kernel
theorem dX12_noise_9 : decode cX12_noise 9 = .ok (.iastore, 1) := by decide +kernel
theorem dX12_noise_10 : decode cX12_noise 10 = .ok (.aload_n 0, 1) := by decide +kernel
theorem dX12_noise_11 : decode cX12_noise 11 = .ok (.getfield 65, 3) := by decide +kernel
theorem dX12_noise_14 : decode cX12_noise 14 = .ok (.aload_n 0, 1) := by decide +kernel
theorem dX12_noise_15 : decode cX12_noise 15 = .ok (.getfield 265, 3) := by decide +kernel
theorem dX12_noise_18 : decode cX12_noise 18 = .ok (.iload_n 2, 1) := by decide +kernel
theorem dX12_noise_19 : decode cX12_noise 19 = .ok (.iastore, 1) := by decide +kernel
theorem dX12_noise_20 : decode cX12_noise 20 = .ok (.aload_n 0, 1) := by decide +kernel
theorem dX12_noise_21 : decode cX12_noise 21 = .ok (.getfield 68, 3) := by decide +kernel
theorem dX12_noise_24 : decode cX12_noise 24 = .ok (.aload_n 0, 1) := by decide +kernel
theorem dX12_noise_25 : decode cX12_noise 25 = .ok (.getfield 265, 3) := by decide +kernel
theorem dX12_noise_28 : decode cX12_noise 28 = .ok (.iload_n 3, 1) := by decide +kernel
theorem dX12_noise_29 : decode cX12_noise 29 = .ok (.iastore, 1) := by decide +kernel
theorem dX12_noise_30 : decode cX12_noise 30 = .ok (.aload_n 0, 1) := by decide +kernel
theorem dX12_noise_31 : decode cX12_noise 31 = .ok (.getfield 71, 3) := by decide +kernel
theorem dX12_noise_34 : decode cX12_noise 34 = .ok (.aload_n 0, 1) := by decide +kernel
theorem dX12_noise_35 : decode cX12_noise 35 = .ok (.getfield 265, 3) := by decide +kernel
theorem dX12_noise_38 : decode cX12_noise 38 = .ok (.iload 4, 2) := by decide +kernel
theorem dX12_noise_40 : decode cX12_noise 40 = .ok (.iastore, 1) := by decide +kernel
theorem dX12_noise_41 : decode cX12_noise 41 = .ok (.aload_n 0, 1) := by decide +kernel
theorem dX12_noise_42 : decode cX12_noise 42 = .ok (.dup, 1) := by decide +kernel
theorem dX12_noise_43 : decode cX12_noise 43 = .ok (.getfield 265, 3) := by decide +kernel
theorem dX12_noise_46 : decode cX12_noise 46 = .ok (.iconst 1, 1) := by decide +kernel
theorem dX12_noise_47 : decode cX12_noise 47 = .ok (.iadd, 1) := by decide +kernel
theorem dX12_noise_48 : decode cX12_noise 48 = .ok (.putfield 265, 3) := by decide +kernel
theorem dX12_noise_51 : decode cX12_noise 51 = .ok (.return_, 1) := by decide +kernel
theorem dX12_bedCell_0 : decode cX12_bedCell 0 = .ok (.aload_n 0, 1) := by decide +kernel
theorem dX12_bedCell_1 : decode cX12_bedCell 1 = .ok (.getfield 7, 3) := by decide +kernel
theorem dX12_bedCell_4 : decode cX12_bedCell 4 = .ok (.bipush 82, 2) := by decide +kernel
theorem dX12_bedCell_6 : decode cX12_bedCell 6 = .ok (.aload_n 0, 1) := by decide +kernel
theorem dX12_bedCell_7 : decode cX12_bedCell 7 = .ok (.iload_n 1, 1) := by decide +kernel
theorem dX12_bedCell_8 : decode cX12_bedCell 8 = .ok (.iconst 5, 1) := by decide +kernel
theorem dX12_bedCell_9 : decode cX12_bedCell 9 = .ok (.invokevirtual 147, 3) := by decide +kernel
theorem dX12_bedCell_12 : decode cX12_bedCell 12 = .ok (.iadd, 1) := by decide +kernel
theorem dX12_bedCell_13 : decode cX12_bedCell 13 = .ok (.iaload, 1) := by decide +kernel
theorem dX12_bedCell_14 : decode cX12_bedCell 14 = .ok (.ireturn, 1) := by decide +kernel
theorem dX12_steps_0 : decode cX12_steps 0 = .ok (.iload_n 2, 1) := by decide +kernel
theorem dX12_steps_1 : decode cX12_steps 1 = .ok (.istore 4, 2) := by decide +kernel
theorem dX12_steps_3 : decode cX12_steps 3 = .ok (.aload_n 0, 1) := by decide +kernel
theorem dX12_steps_4 : decode cX12_steps 4 = .ok (.getfield 35, 3) := by decide +kernel
theorem dX12_steps_7 : decode cX12_steps 7 = .ok (.bipush 36, 2) := by decide +kernel
theorem dX12_steps_9 : decode cX12_steps 9 = .ok (.iload_n 2, 1) := by decide +kernel
theorem dX12_steps_10 : decode cX12_steps 10 = .ok (.imul, 1) := by decide +kernel
theorem dX12_steps_11 : decode cX12_steps 11 = .ok (.iload_n 3, 1) := by decide +kernel
theorem dX12_steps_12 : decode cX12_steps 12 = .ok (.iadd, 1) := by decide +kernel
theorem dX12_steps_13 : decode cX12_steps 13 = .ok (.iaload, 1) := by decide +kernel
theorem dX12_steps_14 : decode cX12_steps 14 = .ok (.sipush 1000, 3) := by decide +kernel
theorem dX12_steps_17 : decode cX12_steps 17 = .ok (.if_icmp .ge 114, 3) := by decide +kernel
theorem dX12_steps_20 : decode cX12_steps 20 = .ok (.iload 4, 2) := by decide +kernel
theorem dX12_steps_22 : decode cX12_steps 22 = .ok (.iload_n 3, 1) := by decide +kernel
theorem dX12_steps_23 : decode cX12_steps 23 = .ok (.if_icmp .eq 108, 3) := by decide +kernel
theorem dX12_steps_26 : decode cX12_steps 26 = .ok (.iconst (-1), 1) := by decide +kernel
theorem dX12_steps_27 : decode cX12_steps 27 = .ok (.istore 5, 2) := by decide +kernel
theorem dX12_steps_29 : decode cX12_steps 29 = .ok (.iconst 3, 1) := by decide +kernel
theorem dX12_steps_30 : decode cX12_steps 30 = .ok (.istore 6, 2) := by decide +kernel
theorem dX12_steps_32 : decode cX12_steps 32 = .ok (.iload 6, 2) := by decide +kernel
theorem dX12_steps_34 : decode cX12_steps 34 = .ok (.ifCond .lt 72, 3) := by decide +kernel
theorem dX12_steps_37 : decode cX12_steps 37 = .ok (.aload_n 0, 1) := by decide +kernel
theorem dX12_steps_38 : decode cX12_steps 38 = .ok (.iload 4, 2) := by decide +kernel
theorem dX12_steps_40 : decode cX12_steps 40 = .ok (.iload 6, 2) := by decide +kernel
theorem dX12_steps_42 : decode cX12_steps 42 = .ok (.invokevirtual 249, 3) := by decide +kernel
theorem dX12_steps_45 : decode cX12_steps 45 = .ok (.istore 7, 2) := by decide +kernel
theorem dX12_steps_47 : decode cX12_steps 47 = .ok (.iload 7, 2) := by decide +kernel
theorem dX12_steps_49 : decode cX12_steps 49 = .ok (.iconst (-1), 1) := by decide +kernel
theorem dX12_steps_50 : decode cX12_steps 50 = .ok (.if_icmp .eq 46, 3) := by decide +kernel
theorem dX12_steps_53 : decode cX12_steps 53 = .ok (.aload_n 0, 1) := by decide +kernel
theorem dX12_steps_54 : decode cX12_steps 54 = .ok (.getfield 35, 3) := by decide +kernel
theorem dX12_steps_57 : decode cX12_steps 57 = .ok (.bipush 36, 2) := by decide +kernel
theorem dX12_steps_59 : decode cX12_steps 59 = .ok (.iload 7, 2) := by decide +kernel
theorem dX12_steps_61 : decode cX12_steps 61 = .ok (.ifCond .ge 7, 3) := by decide +kernel
theorem dX12_steps_64 : decode cX12_steps 64 = .ok (.iconst 0, 1) := by decide +kernel
theorem dX12_steps_65 : decode cX12_steps 65 = .ok (.goto 5, 3) := by decide +kernel
theorem dX12_steps_68 : decode cX12_steps 68 = .ok (.iload 7, 2) := by decide +kernel
theorem dX12_steps_70 : decode cX12_steps 70 = .ok (.imul, 1) := by decide +kernel
theorem dX12_steps_71 : decode cX12_steps 71 = .ok (.iload_n 3, 1) := by decide +kernel
theorem dX12_steps_72 : decode cX12_steps 72 = .ok (.iadd, 1) := by decide +kernel
theorem dX12_steps_73 : decode cX12_steps 73 = .ok (.iaload, 1) := by decide +kernel
theorem dX12_steps_74 : decode cX12_steps 74 = .ok (.aload_n 0, 1) := by decide +kernel
theorem dX12_steps_75 : decode cX12_steps 75 = .ok (.getfield 35, 3) := by decide +kernel
theorem dX12_steps_78 : decode cX12_steps 78 = .ok (.bipush 36, 2) := by decide +kernel
theorem dX12_steps_80 : decode cX12_steps 80 = .ok (.iload 4, 2) := by decide +kernel
theorem dX12_steps_82 : decode cX12_steps 82 = .ok (.imul, 1) := by decide +kernel
theorem dX12_steps_83 : decode cX12_steps 83 = .ok (.iload_n 3, 1) := by decide +kernel
theorem dX12_steps_84 : decode cX12_steps 84 = .ok (.iadd, 1) := by decide +kernel
theorem dX12_steps_85 : decode cX12_steps 85 = .ok (.iaload, 1) := by decide +kernel
theorem dX12_steps_86 : decode cX12_steps 86 = .ok (.iconst 1, 1) := by decide +kernel
theorem dX12_steps_87 : decode cX12_steps 87 = .ok (.isub, 1) := by decide +kernel
theorem dX12_steps_88 : decode cX12_steps 88 = .ok (.if_icmp .ne 8, 3) := by decide +kernel
theorem dX12_steps_91 : decode cX12_steps 91 = .ok (.iload 7, 2) := by decide +kernel
theorem dX12_steps_93 : decode cX12_steps 93 = .ok (.goto 5, 3) := by decide +kernel
theorem dX12_steps_96 : decode cX12_steps 96 = .ok (.iload 5, 2) := by decide +kernel
theorem dX12_steps_98 : decode cX12_steps 98 = .ok (.istore 5, 2) := by decide +kernel
theorem dX12_steps_100 : decode cX12_steps 100 = .ok (.iinc 6 (-1), 3) := by decide +kernel
theorem dX12_steps_103 : decode cX12_steps 103 = .ok (.goto (-71), 3) := by decide +kernel
theorem dX12_steps_106 : decode cX12_steps 106 = .ok (.iload 5, 2) := by decide +kernel
theorem dX12_steps_108 : decode cX12_steps 108 = .ok (.istore 4, 2) := by decide +kernel
theorem dX12_steps_110 : decode cX12_steps 110 = .ok (.aload_n 0, 1) := by decide +kernel
theorem dX12_steps_111 : decode cX12_steps 111 = .ok (.iload 4, 2) := by decide +kernel
theorem dX12_steps_113 : decode cX12_steps 113 = .ok (.aload_n 0, 1) := by decide +kernel
theorem dX12_steps_114 : decode cX12_steps 114 = .ok (.getfield 7, 3) := by decide +kernel
theorem dX12_steps_117 : decode cX12_steps 117 = .ok (.bipush 46, 2) := by decide +kernel
theorem dX12_steps_119 : decode cX12_steps 119 = .ok (.iload 4, 2) := by decide +kernel
theorem dX12_steps_121 : decode cX12_steps 121 = .ok (.iadd, 1) := by decide +kernel
theorem dX12_steps_122 : decode cX12_steps 122 = .ok (.iaload, 1) := by decide +kernel
theorem dX12_steps_123 : decode cX12_steps 123 = .ok (.iload_n 1, 1) := by decide +kernel
theorem dX12_steps_124 : decode cX12_steps 124 = .ok (.iload_n 1, 1) := by decide +kernel
theorem dX12_steps_125 : decode cX12_steps 125 = .ok (.invokevirtual 268, 3) := by decide +kernel
theorem dX12_steps_128 : decode cX12_steps 128 = .ok (.goto (-125), 3) := by decide +kernel
theorem dX12_steps_131 : decode cX12_steps 131 = .ok (.return_, 1) := by decide +kernel
theorem dX12_deepOf_0 : decode cX12_deepOf 0 = .ok (.iload_n 0, 1) := by decide +kernel
theorem dX12_deepOf_1 : decode cX12_deepOf 1 = .ok (.bipush 6, 2) := by decide +kernel
theorem dX12_deepOf_3 : decode cX12_deepOf 3 = .ok (.irem, 1) := by decide +kernel
theorem dX12_deepOf_4 : decode cX12_deepOf 4 = .ok (.istore_n 1, 1) := by decide +kernel
theorem dX12_deepOf_5 : decode cX12_deepOf 5 = .ok (.iload_n 1, 1) := by decide +kernel
theorem dX12_deepOf_6 : decode cX12_deepOf 6 = .ok (.iconst 4, 1) := by decide +kernel
theorem dX12_deepOf_7 : decode cX12_deepOf 7 = .ok (.if_icmp .ge 7, 3) := by decide +kernel
theorem dX12_deepOf_10 : decode cX12_deepOf 10 = .ok (.iload_n 1, 1) := by decide +kernel
theorem dX12_deepOf_11 : decode cX12_deepOf 11 = .ok (.goto 7, 3) := by decide +kernel
theorem dX12_deepOf_14 : decode cX12_deepOf 14 = .ok (.bipush 6, 2) := by decide +kernel
theorem dX12_deepOf_16 : decode cX12_deepOf 16 = .ok (.iload_n 1, 1) := by decide +kernel
theorem dX12_deepOf_17 : decode cX12_deepOf 17 = .ok (.isub, 1) := by decide +kernel
theorem dX12_deepOf_18 : decode cX12_deepOf 18 = .ok (.ireturn, 1) := by decide +kernel
theorem dX12_comes_0 : decode cX12_comes 0 = .ok (.iconst 0, 1) := by decide +kernel
theorem dX12_comes_1 : decode cX12_comes 1 = .ok (.istore_n 2, 1) := by decide +kernel
theorem dX12_comes_2 : decode cX12_comes 2 = .ok (.iload_n 2, 1) := by decide +kernel
theorem dX12_comes_3 : decode cX12_comes 3 = .ok (.aload_n 0, 1) := by decide +kernel
theorem dX12_comes_4 : decode cX12_comes 4 = .ok (.getfield 7, 3) := by decide +kernel
theorem dX12_comes_7 : decode cX12_comes 7 = .ok (.iconst 2, 1) := by decide +kernel
theorem dX12_comes_8 : decode cX12_comes 8 = .ok (.iaload, 1) := by decide +kernel
theorem dX12_comes_9 : decode cX12_comes 9 = .ok (.if_icmp .ge 104, 3) := by decide +kernel
theorem dX12_comes_12 : decode cX12_comes 12 = .ok (.aload_n 0, 1) := by decide +kernel
theorem dX12_comes_13 : decode cX12_comes 13 = .ok (.iload_n 2, 1) := by decide +kernel
theorem dX12_comes_14 : decode cX12_comes 14 = .ok (.iconst 5, 1) := by decide +kernel
theorem dX12_comes_15 : decode cX12_comes 15 = .ok (.invokevirtual 147, 3) := by decide +kernel
theorem dX12_comes_18 : decode cX12_comes 18 = .ok (.iconst (-1), 1) := by decide +kernel
theorem dX12_comes_19 : decode cX12_comes 19 = .ok (.if_icmp .eq 44, 3) := by decide +kernel
theorem dX12_comes_22 : decode cX12_comes 22 = .ok (.aload_n 0, 1) := by decide +kernel
theorem dX12_comes_23 : decode cX12_comes 23 = .ok (.iload_n 2, 1) := by decide +kernel
theorem dX12_comes_24 : decode cX12_comes 24 = .ok (.iconst 2, 1) := by decide +kernel
theorem dX12_comes_25 : decode cX12_comes 25 = .ok (.invokevirtual 147, 3) := by decide +kernel
theorem dX12_comes_28 : decode cX12_comes 28 = .ok (.iload_n 1, 1) := by decide +kernel
theorem dX12_comes_29 : decode cX12_comes 29 = .ok (.if_icmp .ne 34, 3) := by decide +kernel
theorem dX12_comes_32 : decode cX12_comes 32 = .ok (.aload_n 0, 1) := by decide +kernel
theorem dX12_comes_33 : decode cX12_comes 33 = .ok (.iload_n 2, 1) := by decide +kernel
theorem dX12_comes_34 : decode cX12_comes 34 = .ok (.aload_n 0, 1) := by decide +kernel
theorem dX12_comes_35 : decode cX12_comes 35 = .ok (.getfield 7, 3) := by decide +kernel
theorem dX12_comes_38 : decode cX12_comes 38 = .ok (.bipush 6, 2) := by decide +kernel
theorem dX12_comes_40 : decode cX12_comes 40 = .ok (.iaload, 1) := by decide +kernel
theorem dX12_comes_41 : decode cX12_comes 41 = .ok (.aload_n 0, 1) := by decide +kernel
theorem dX12_comes_42 : decode cX12_comes 42 = .ok (.iload_n 2, 1) := by decide +kernel
theorem dX12_comes_43 : decode cX12_comes 43 = .ok (.invokevirtual 272, 3) := by decide +kernel
theorem dX12_comes_46 : decode cX12_comes 46 = .ok (.invokevirtual 275, 3) := by decide +kernel
theorem dX12_comes_49 : decode cX12_comes 49 = .ok (.aload_n 0, 1) := by decide +kernel
theorem dX12_comes_50 : decode cX12_comes 50 = .ok (.getfield 38, 3) := by decide +kernel
theorem dX12_comes_53 : decode cX12_comes 53 = .ok (.iload_n 2, 1) := by decide +kernel
theorem dX12_comes_54 : decode cX12_comes 54 = .ok (.iconst 1, 1) := by decide +kernel
theorem dX12_comes_55 : decode cX12_comes 55 = .ok (.iastore, 1) := by decide +kernel
theorem dX12_comes_56 : decode cX12_comes 56 = .ok (.aload_n 0, 1) := by decide +kernel
theorem dX12_comes_57 : decode cX12_comes 57 = .ok (.getfield 44, 3) := by decide +kernel
theorem dX12_comes_60 : decode cX12_comes 60 = .ok (.iload_n 2, 1) := by decide +kernel
theorem dX12_comes_61 : decode cX12_comes 61 = .ok (.iconst 0, 1) := by decide +kernel
theorem dX12_comes_62 : decode cX12_comes 62 = .ok (.iastore, 1) := by decide +kernel
theorem dX12_comes_63 : decode cX12_comes 63 = .ok (.aload_n 0, 1) := by decide +kernel
theorem dX12_comes_64 : decode cX12_comes 64 = .ok (.iload_n 2, 1) := by decide +kernel
theorem dX12_comes_65 : decode cX12_comes 65 = .ok (.iconst 5, 1) := by decide +kernel
theorem dX12_comes_66 : decode cX12_comes 66 = .ok (.invokevirtual 147, 3) := by decide +kernel
theorem dX12_comes_69 : decode cX12_comes 69 = .ok (.iconst (-1), 1) := by decide +kernel
theorem dX12_comes_70 : decode cX12_comes 70 = .ok (.if_icmp .eq 37, 3) := by decide +kernel
theorem dX12_comes_73 : decode cX12_comes 73 = .ok (.aload_n 0, 1) := by decide +kernel
theorem dX12_comes_74 : decode cX12_comes 74 = .ok (.iload_n 2, 1) := by decide +kernel
theorem dX12_comes_75 : decode cX12_comes 75 = .ok (.iconst 3, 1) := by decide +kernel
theorem dX12_comes_76 : decode cX12_comes 76 = .ok (.invokevirtual 147, 3) := by decide +kernel
theorem dX12_comes_79 : decode cX12_comes 79 = .ok (.iload_n 1, 1) := by decide +kernel
theorem dX12_comes_80 : decode cX12_comes 80 = .ok (.if_icmp .ne 27, 3) := by decide +kernel
theorem dX12_comes_83 : decode cX12_comes 83 = .ok (.aload_n 0, 1) := by decide +kernel
theorem dX12_comes_84 : decode cX12_comes 84 = .ok (.iload_n 2, 1) := by decide +kernel
theorem dX12_comes_85 : decode cX12_comes 85 = .ok (.aload_n 0, 1) := by decide +kernel
theorem dX12_comes_86 : decode cX12_comes 86 = .ok (.iload_n 2, 1) := by decide +kernel
theorem dX12_comes_87 : decode cX12_comes 87 = .ok (.invokevirtual 272, 3) := by decide +kernel
theorem dX12_comes_90 : decode cX12_comes 90 = .ok (.aload_n 0, 1) := by decide +kernel
theorem dX12_comes_91 : decode cX12_comes 91 = .ok (.getfield 7, 3) := by decide +kernel
theorem dX12_comes_94 : decode cX12_comes 94 = .ok (.bipush 6, 2) := by decide +kernel
theorem dX12_comes_96 : decode cX12_comes 96 = .ok (.iaload, 1) := by decide +kernel
theorem dX12_comes_97 : decode cX12_comes 97 = .ok (.invokevirtual 275, 3) := by decide +kernel
theorem dX12_comes_100 : decode cX12_comes 100 = .ok (.aload_n 0, 1) := by decide +kernel
theorem dX12_comes_101 : decode cX12_comes 101 = .ok (.getfield 38, 3) := by decide +kernel
theorem dX12_comes_104 : decode cX12_comes 104 = .ok (.iload_n 2, 1) := by decide +kernel
theorem dX12_comes_105 : decode cX12_comes 105 = .ok (.iconst 0, 1) := by decide +kernel
theorem dX12_comes_106 : decode cX12_comes 106 = .ok (.iastore, 1) := by decide +kernel
theorem dX12_comes_107 : decode cX12_comes 107 = .ok (.iinc 2 1, 3) := by decide +kernel
theorem dX12_comes_110 : decode cX12_comes 110 = .ok (.goto (-108), 3) := by decide +kernel
theorem dX12_comes_113 : decode cX12_comes 113 = .ok (.return_, 1) := by decide +kernel
theorem dX12_sounds_0 : decode cX12_sounds 0 = .ok (.iconst 0, 1) := by decide +kernel
theorem dX12_sounds_1 : decode cX12_sounds 1 = .ok (.istore_n 2, 1) := by decide +kernel
theorem dX12_sounds_2 : decode cX12_sounds 2 = .ok (.iload_n 2, 1) := by decide +kernel
theorem dX12_sounds_3 : decode cX12_sounds 3 = .ok (.aload_n 0, 1) := by decide +kernel
theorem dX12_sounds_4 : decode cX12_sounds 4 = .ok (.getfield 7, 3) := by decide +kernel
theorem dX12_sounds_7 : decode cX12_sounds 7 = .ok (.iconst 3, 1) := by decide +kernel
theorem dX12_sounds_8 : decode cX12_sounds 8 = .ok (.iaload, 1) := by decide +kernel
theorem dX12_sounds_9 : decode cX12_sounds 9 = .ok (.if_icmp .ge 258, 3) := by decide +kernel
theorem dX12_sounds_12 : decode cX12_sounds 12 = .ok (.bipush 120, 2) := by decide +kernel
theorem dX12_sounds_14 : decode cX12_sounds 14 = .ok (.iconst 5, 1) := by decide +kernel
theorem dX12_sounds_15 : decode cX12_sounds 15 = .ok (.iload_n 2, 1) := by decide +kernel
theorem dX12_sounds_16 : decode cX12_sounds 16 = .ok (.imul, 1) := by decide +kernel
theorem dX12_sounds_17 : decode cX12_sounds 17 = .ok (.iadd, 1) := by decide +kernel
theorem dX12_sounds_18 : decode cX12_sounds 18 = .ok (.istore_n 3, 1) := by decide +kernel
theorem dX12_sounds_19 : decode cX12_sounds 19 = .ok (.aload_n 0, 1) := by decide +kernel
theorem dX12_sounds_20 : decode cX12_sounds 20 = .ok (.getfield 7, 3) := by decide +kernel
theorem dX12_sounds_23 : decode cX12_sounds 23 = .ok (.iload_n 3, 1) := by decide +kernel
theorem dX12_sounds_24 : decode cX12_sounds 24 = .ok (.iaload, 1) := by decide +kernel
theorem dX12_sounds_25 : decode cX12_sounds 25 = .ok (.istore 4, 2) := by decide +kernel
theorem dX12_sounds_27 : decode cX12_sounds 27 = .ok (.aload_n 0, 1) := by decide +kernel
theorem dX12_sounds_28 : decode cX12_sounds 28 = .ok (.getfield 7, 3) := by decide +kernel
theorem dX12_sounds_31 : decode cX12_sounds 31 = .ok (.iload_n 3, 1) := by decide +kernel
theorem dX12_sounds_32 : decode cX12_sounds 32 = .ok (.iconst 1, 1) := by decide +kernel
theorem dX12_sounds_33 : decode cX12_sounds 33 = .ok (.iadd, 1) := by decide +kernel
theorem dX12_sounds_34 : decode cX12_sounds 34 = .ok (.iaload, 1) := by decide +kernel
theorem dX12_sounds_35 : decode cX12_sounds 35 = .ok (.istore 5, 2) := by decide +kernel
theorem dX12_sounds_37 : decode cX12_sounds 37 = .ok (.iload_n 1, 1) := by decide +kernel
theorem dX12_sounds_38 : decode cX12_sounds 38 = .ok (.i2l, 1) := by decide +kernel
theorem dX12_sounds_39 : decode cX12_sounds 39 = .ok (.aload_n 0, 1) := by decide +kernel
theorem dX12_sounds_40 : decode cX12_sounds 40 = .ok (.getfield 7, 3) := by decide +kernel
theorem dX12_sounds_43 : decode cX12_sounds 43 = .ok (.iload_n 3, 1) := by decide +kernel
theorem dX12_sounds_44 : decode cX12_sounds 44 = .ok (.iconst 2, 1) := by decide +kernel
theorem dX12_sounds_45 : decode cX12_sounds 45 = .ok (.iadd, 1) := by decide +kernel
theorem dX12_sounds_46 : decode cX12_sounds 46 = .ok (.iaload, 1) := by decide +kernel
theorem dX12_sounds_47 : decode cX12_sounds 47 = .ok (.i2l, 1) := by decide +kernel
theorem dX12_sounds_48 : decode cX12_sounds 48 = .ok (.aload_n 0, 1) := by decide +kernel
theorem dX12_sounds_49 : decode cX12_sounds 49 = .ok (.getfield 7, 3) := by decide +kernel
theorem dX12_sounds_52 : decode cX12_sounds 52 = .ok (.iload_n 3, 1) := by decide +kernel
theorem dX12_sounds_53 : decode cX12_sounds 53 = .ok (.iconst 3, 1) := by decide +kernel
theorem dX12_sounds_54 : decode cX12_sounds 54 = .ok (.iadd, 1) := by decide +kernel
theorem dX12_sounds_55 : decode cX12_sounds 55 = .ok (.iaload, 1) := by decide +kernel
theorem dX12_sounds_56 : decode cX12_sounds 56 = .ok (.i2l, 1) := by decide +kernel
theorem dX12_sounds_57 : decode cX12_sounds 57 = .ok (.invokestatic 106, 3) := by decide +kernel
theorem dX12_sounds_60 : decode cX12_sounds 60 = .ok (.istore 6, 2) := by decide +kernel
theorem dX12_sounds_62 : decode cX12_sounds 62 = .ok (.iload 4, 2) := by decide +kernel
theorem dX12_sounds_64 : decode cX12_sounds 64 = .ok (.ifCond .ne 27, 3) := by decide +kernel
theorem dX12_sounds_67 : decode cX12_sounds 67 = .ok (.iload 6, 2) := by decide +kernel
theorem dX12_sounds_69 : decode cX12_sounds 69 = .ok (.ifCond .eq 22, 3) := by decide +kernel
theorem dX12_sounds_72 : decode cX12_sounds 72 = .ok (.aload_n 0, 1) := by decide +kernel
theorem dX12_sounds_73 : decode cX12_sounds 73 = .ok (.iload 5, 2) := by decide +kernel
theorem dX12_sounds_75 : decode cX12_sounds 75 = .ok (.aload_n 0, 1) := by decide +kernel
theorem dX12_sounds_76 : decode cX12_sounds 76 = .ok (.getfield 7, 3) := by decide +kernel
theorem dX12_sounds_79 : decode cX12_sounds 79 = .ok (.iload_n 3, 1) := by decide +kernel
theorem dX12_sounds_80 : decode cX12_sounds 80 = .ok (.iconst 4, 1) := by decide +kernel
theorem dX12_sounds_81 : decode cX12_sounds 81 = .ok (.iadd, 1) := by decide +kernel
theorem dX12_sounds_82 : decode cX12_sounds 82 = .ok (.iaload, 1) := by decide +kernel
theorem dX12_sounds_83 : decode cX12_sounds 83 = .ok (.bipush 10, 2) := by decide +kernel
theorem dX12_sounds_85 : decode cX12_sounds 85 = .ok (.iload_n 2, 1) := by decide +kernel
theorem dX12_sounds_86 : decode cX12_sounds 86 = .ok (.iadd, 1) := by decide +kernel
theorem dX12_sounds_87 : decode cX12_sounds 87 = .ok (.iconst (-1), 1) := by decide +kernel
theorem dX12_sounds_88 : decode cX12_sounds 88 = .ok (.invokevirtual 268, 3) := by decide +kernel
theorem dX12_sounds_91 : decode cX12_sounds 91 = .ok (.iload 4, 2) := by decide +kernel
theorem dX12_sounds_93 : decode cX12_sounds 93 = .ok (.ifCond .le 39, 3) := by decide +kernel
theorem dX12_sounds_96 : decode cX12_sounds 96 = .ok (.iload 4, 2) := by decide +kernel
theorem dX12_sounds_98 : decode cX12_sounds 98 = .ok (.iconst 4, 1) := by decide +kernel
theorem dX12_sounds_99 : decode cX12_sounds 99 = .ok (.if_icmp .ge 33, 3) := by decide +kernel
theorem dX12_sounds_102 : decode cX12_sounds 102 = .ok (.aload_n 0, 1) := by decide +kernel
theorem dX12_sounds_103 : decode cX12_sounds 103 = .ok (.iload 4, 2) := by decide +kernel
theorem dX12_sounds_105 : decode cX12_sounds 105 = .ok (.ifCond .eq 9, 3) := by decide +kernel
theorem dX12_sounds_108 : decode cX12_sounds 108 = .ok (.iload 4, 2) := by decide +kernel
theorem dX12_sounds_110 : decode cX12_sounds 110 = .ok (.iconst 4, 1) := by decide +kernel
theorem dX12_sounds_111 : decode cX12_sounds 111 = .ok (.if_icmp .ne 7, 3) := by decide +kernel
theorem dX12_sounds_114 : decode cX12_sounds 114 = .ok (.iconst 0, 1) := by decide +kernel
theorem dX12_sounds_115 : decode cX12_sounds 115 = .ok (.goto 5, 3) := by decide +kernel
theorem dX12_sounds_118 : decode cX12_sounds 118 = .ok (.iload 5, 2) := by decide +kernel
theorem dX12_sounds_120 : decode cX12_sounds 120 = .ok (.iconst 5, 1) := by decide +kernel
theorem dX12_sounds_121 : decode cX12_sounds 121 = .ok (.invokevirtual 147, 3) := by decide +kernel
theorem dX12_sounds_124 : decode cX12_sounds 124 = .ok (.iconst (-1), 1) := by decide +kernel
theorem dX12_sounds_125 : decode cX12_sounds 125 = .ok (.if_icmp .eq 7, 3) := by decide +kernel
theorem dX12_sounds_128 : decode cX12_sounds 128 = .ok (.iconst 1, 1) := by decide +kernel
theorem dX12_sounds_129 : decode cX12_sounds 129 = .ok (.goto 4, 3) := by decide +kernel
theorem dX12_sounds_132 : decode cX12_sounds 132 = .ok (.iconst 0, 1) := by decide +kernel
theorem dX12_sounds_133 : decode cX12_sounds 133 = .ok (.istore 7, 2) := by decide +kernel
theorem dX12_sounds_135 : decode cX12_sounds 135 = .ok (.iload 4, 2) := by decide +kernel
theorem dX12_sounds_137 : decode cX12_sounds 137 = .ok (.iconst 1, 1) := by decide +kernel
theorem dX12_sounds_138 : decode cX12_sounds 138 = .ok (.if_icmp .ne 26, 3) := by decide +kernel
theorem dX12_sounds_141 : decode cX12_sounds 141 = .ok (.iload_n 1, 1) := by decide +kernel
theorem dX12_sounds_142 : decode cX12_sounds 142 = .ok (.aload_n 0, 1) := by decide +kernel
theorem dX12_sounds_143 : decode cX12_sounds 143 = .ok (.getfield 7, 3) := by decide +kernel
theorem dX12_sounds_146 : decode cX12_sounds 146 = .ok (.iload_n 3, 1) := by decide +kernel
theorem dX12_sounds_147 : decode cX12_sounds 147 = .ok (.iconst 2, 1) := by decide +kernel
theorem dX12_sounds_148 : decode cX12_sounds 148 = .ok (.iadd, 1) := by decide +kernel
theorem dX12_sounds_149 : decode cX12_sounds 149 = .ok (.iaload, 1) := by decide +kernel
theorem dX12_sounds_150 : decode cX12_sounds 150 = .ok (.isub, 1) := by decide +kernel
theorem dX12_sounds_151 : decode cX12_sounds 151 = .ok (.iconst 4, 1) := by decide +kernel
theorem dX12_sounds_152 : decode cX12_sounds 152 = .ok (.irem, 1) := by decide +kernel
theorem dX12_sounds_153 : decode cX12_sounds 153 = .ok (.ifCond .ne 7, 3) := by decide +kernel
theorem dX12_sounds_156 : decode cX12_sounds 156 = .ok (.iconst 1, 1) := by decide +kernel
theorem dX12_sounds_157 : decode cX12_sounds 157 = .ok (.goto 65, 3) := by decide +kernel
theorem dX12_sounds_160 : decode cX12_sounds 160 = .ok (.iconst 0, 1) := by decide +kernel
theorem dX12_sounds_161 : decode cX12_sounds 161 = .ok (.goto 61, 3) := by decide +kernel
theorem dX12_sounds_164 : decode cX12_sounds 164 = .ok (.iload 4, 2) := by decide +kernel
theorem dX12_sounds_166 : decode cX12_sounds 166 = .ok (.iconst 2, 1) := by decide +kernel
theorem dX12_sounds_167 : decode cX12_sounds 167 = .ok (.if_icmp .ne 32, 3) := by decide +kernel
theorem dX12_sounds_170 : decode cX12_sounds 170 = .ok (.aload_n 0, 1) := by decide +kernel
theorem dX12_sounds_171 : decode cX12_sounds 171 = .ok (.getfield 38, 3) := by decide +kernel
theorem dX12_sounds_174 : decode cX12_sounds 174 = .ok (.iload 4, 2) := by decide +kernel
theorem dX12_sounds_176 : decode cX12_sounds 176 = .ok (.iconst 2, 1) := by decide +kernel
theorem dX12_sounds_177 : decode cX12_sounds 177 = .ok (.if_icmp .ne 8, 3) := by decide +kernel
theorem dX12_sounds_180 : decode cX12_sounds 180 = .ok (.iload 5, 2) := by decide +kernel
theorem dX12_sounds_182 : decode cX12_sounds 182 = .ok (.goto 4, 3) := by decide +kernel
theorem dX12_sounds_185 : decode cX12_sounds 185 = .ok (.iconst 0, 1) := by decide +kernel
theorem dX12_sounds_186 : decode cX12_sounds 186 = .ok (.iaload, 1) := by decide +kernel
theorem dX12_sounds_187 : decode cX12_sounds 187 = .ok (.iconst 1, 1) := by decide +kernel
theorem dX12_sounds_188 : decode cX12_sounds 188 = .ok (.if_icmp .ne 7, 3) := by decide +kernel
theorem dX12_sounds_191 : decode cX12_sounds 191 = .ok (.iconst 1, 1) := by decide +kernel
theorem dX12_sounds_192 : decode cX12_sounds 192 = .ok (.goto 30, 3) := by decide +kernel
theorem dX12_sounds_195 : decode cX12_sounds 195 = .ok (.iconst 0, 1) := by decide +kernel
theorem dX12_sounds_196 : decode cX12_sounds 196 = .ok (.goto 26, 3) := by decide +kernel
theorem dX12_sounds_199 : decode cX12_sounds 199 = .ok (.iload 4, 2) := by decide +kernel
theorem dX12_sounds_201 : decode cX12_sounds 201 = .ok (.iconst 3, 1) := by decide +kernel
theorem dX12_sounds_202 : decode cX12_sounds 202 = .ok (.if_icmp .ne 19, 3) := by decide +kernel
theorem dX12_sounds_205 : decode cX12_sounds 205 = .ok (.iload_n 1, 1) := by decide +kernel
theorem dX12_sounds_206 : decode cX12_sounds 206 = .ok (.aload_n 0, 1) := by decide +kernel
theorem dX12_sounds_207 : decode cX12_sounds 207 = .ok (.getfield 7, 3) := by decide +kernel
theorem dX12_sounds_210 : decode cX12_sounds 210 = .ok (.iload_n 3, 1) := by decide +kernel
theorem dX12_sounds_211 : decode cX12_sounds 211 = .ok (.iconst 2, 1) := by decide +kernel
theorem dX12_sounds_212 : decode cX12_sounds 212 = .ok (.iadd, 1) := by decide +kernel
theorem dX12_sounds_213 : decode cX12_sounds 213 = .ok (.iaload, 1) := by decide +kernel
theorem dX12_sounds_214 : decode cX12_sounds 214 = .ok (.if_icmp .ne 7, 3) := by decide +kernel
theorem dX12_sounds_217 : decode cX12_sounds 217 = .ok (.iconst 1, 1) := by decide +kernel
theorem dX12_sounds_218 : decode cX12_sounds 218 = .ok (.goto 4, 3) := by decide +kernel
theorem dX12_sounds_221 : decode cX12_sounds 221 = .ok (.iconst 0, 1) := by decide +kernel
theorem dX12_sounds_222 : decode cX12_sounds 222 = .ok (.istore 8, 2) := by decide +kernel
theorem dX12_sounds_224 : decode cX12_sounds 224 = .ok (.iload 7, 2) := by decide +kernel
theorem dX12_sounds_226 : decode cX12_sounds 226 = .ok (.ifCond .eq 35, 3) := by decide +kernel
theorem dX12_sounds_229 : decode cX12_sounds 229 = .ok (.iload 6, 2) := by decide +kernel
theorem dX12_sounds_231 : decode cX12_sounds 231 = .ok (.ifCond .eq 30, 3) := by decide +kernel
theorem dX12_sounds_234 : decode cX12_sounds 234 = .ok (.iload 8, 2) := by decide +kernel
theorem dX12_sounds_236 : decode cX12_sounds 236 = .ok (.ifCond .eq 25, 3) := by decide +kernel
theorem dX12_sounds_239 : decode cX12_sounds 239 = .ok (.aload_n 0, 1) := by decide +kernel
theorem dX12_sounds_240 : decode cX12_sounds 240 = .ok (.aload_n 0, 1) := by decide +kernel
theorem dX12_sounds_241 : decode cX12_sounds 241 = .ok (.iload 5, 2) := by decide +kernel
theorem dX12_sounds_243 : decode cX12_sounds 243 = .ok (.invokevirtual 272, 3) := by decide +kernel
theorem dX12_sounds_246 : decode cX12_sounds 246 = .ok (.aload_n 0, 1) := by decide +kernel
theorem dX12_sounds_247 : decode cX12_sounds 247 = .ok (.getfield 7, 3) := by decide +kernel
theorem dX12_sounds_250 : decode cX12_sounds 250 = .ok (.iload_n 3, 1) := by decide +kernel
theorem dX12_sounds_251 : decode cX12_sounds 251 = .ok (.iconst 4, 1) := by decide +kernel
theorem dX12_sounds_252 : decode cX12_sounds 252 = .ok (.iadd, 1) := by decide +kernel
theorem dX12_sounds_253 : decode cX12_sounds 253 = .ok (.iaload, 1) := by decide +kernel
theorem dX12_sounds_254 : decode cX12_sounds 254 = .ok (.iload 5, 2) := by decide +kernel
theorem dX12_sounds_256 : decode cX12_sounds 256 = .ok (.iload 5, 2) := by decide +kernel
theorem dX12_sounds_258 : decode cX12_sounds 258 = .ok (.invokevirtual 268, 3) := by decide +kernel
theorem dX12_sounds_261 : decode cX12_sounds 261 = .ok (.iinc 2 1, 3) := by decide +kernel
theorem dX12_sounds_264 : decode cX12_sounds 264 = .ok (.goto (-262), 3) := by decide +kernel
theorem dX12_sounds_267 : decode cX12_sounds 267 = .ok (.return_, 1) := by decide +kernel
theorem dX12_snores_0 : decode cX12_snores 0 = .ok (.iconst 0, 1) := by decide +kernel
theorem dX12_snores_1 : decode cX12_snores 1 = .ok (.istore_n 2, 1) := by decide +kernel
theorem dX12_snores_2 : decode cX12_snores 2 = .ok (.iload_n 2, 1) := by decide +kernel
theorem dX12_snores_3 : decode cX12_snores 3 = .ok (.aload_n 0, 1) := by decide +kernel
theorem dX12_snores_4 : decode cX12_snores 4 = .ok (.getfield 7, 3) := by decide +kernel
theorem dX12_snores_7 : decode cX12_snores 7 = .ok (.iconst 2, 1) := by decide +kernel
theorem dX12_snores_8 : decode cX12_snores 8 = .ok (.iaload, 1) := by decide +kernel
theorem dX12_snores_9 : decode cX12_snores 9 = .ok (.if_icmp .ge 60, 3) := by decide +kernel
theorem dX12_snores_12 : decode cX12_snores 12 = .ok (.aload_n 0, 1) := by decide +kernel
theorem dX12_snores_13 : decode cX12_snores 13 = .ok (.getfield 38, 3) := by decide +kernel
theorem dX12_snores_16 : decode cX12_snores 16 = .ok (.iload_n 2, 1) := by decide +kernel
theorem dX12_snores_17 : decode cX12_snores 17 = .ok (.iaload, 1) := by decide +kernel
theorem dX12_snores_18 : decode cX12_snores 18 = .ok (.iconst 2, 1) := by decide +kernel
theorem dX12_snores_19 : decode cX12_snores 19 = .ok (.if_icmp .ne 44, 3) := by decide +kernel
theorem dX12_snores_22 : decode cX12_snores 22 = .ok (.iload_n 1, 1) := by decide +kernel
theorem dX12_snores_23 : decode cX12_snores 23 = .ok (.aload_n 0, 1) := by decide +kernel
theorem dX12_snores_24 : decode cX12_snores 24 = .ok (.getfield 41, 3) := by decide +kernel
theorem dX12_snores_27 : decode cX12_snores 27 = .ok (.iload_n 2, 1) := by decide +kernel
theorem dX12_snores_28 : decode cX12_snores 28 = .ok (.iaload, 1) := by decide +kernel
theorem dX12_snores_29 : decode cX12_snores 29 = .ok (.isub, 1) := by decide +kernel
theorem dX12_snores_30 : decode cX12_snores 30 = .ok (.invokestatic 279, 3) := by decide +kernel
theorem dX12_snores_33 : decode cX12_snores 33 = .ok (.iconst 2, 1) := by decide +kernel
theorem dX12_snores_34 : decode cX12_snores 34 = .ok (.if_icmp .lt 29, 3) := by decide +kernel
theorem dX12_snores_37 : decode cX12_snores 37 = .ok (.aload_n 0, 1) := by decide +kernel
theorem dX12_snores_38 : decode cX12_snores 38 = .ok (.iload_n 2, 1) := by decide +kernel
theorem dX12_snores_39 : decode cX12_snores 39 = .ok (.iconst 4, 1) := by decide +kernel
theorem dX12_snores_40 : decode cX12_snores 40 = .ok (.invokevirtual 147, 3) := by decide +kernel
theorem dX12_snores_43 : decode cX12_snores 43 = .ok (.ifCond .le 20, 3) := by decide +kernel
theorem dX12_snores_46 : decode cX12_snores 46 = .ok (.aload_n 0, 1) := by decide +kernel
theorem dX12_snores_47 : decode cX12_snores 47 = .ok (.aload_n 0, 1) := by decide +kernel
theorem dX12_snores_48 : decode cX12_snores 48 = .ok (.iload_n 2, 1) := by decide +kernel
theorem dX12_snores_49 : decode cX12_snores 49 = .ok (.invokevirtual 272, 3) := by decide +kernel
theorem dX12_snores_52 : decode cX12_snores 52 = .ok (.aload_n 0, 1) := by decide +kernel
theorem dX12_snores_53 : decode cX12_snores 53 = .ok (.iload_n 2, 1) := by decide +kernel
theorem dX12_snores_54 : decode cX12_snores 54 = .ok (.iconst 4, 1) := by decide +kernel
theorem dX12_snores_55 : decode cX12_snores 55 = .ok (.invokevirtual 147, 3) := by decide +kernel
theorem dX12_snores_58 : decode cX12_snores 58 = .ok (.iload_n 2, 1) := by decide +kernel
theorem dX12_snores_59 : decode cX12_snores 59 = .ok (.iload_n 2, 1) := by decide +kernel
theorem dX12_snores_60 : decode cX12_snores 60 = .ok (.invokevirtual 268, 3) := by decide +kernel
theorem dX12_snores_63 : decode cX12_snores 63 = .ok (.iinc 2 1, 3) := by decide +kernel
theorem dX12_snores_66 : decode cX12_snores 66 = .ok (.goto (-64), 3) := by decide +kernel
theorem dX12_snores_69 : decode cX12_snores 69 = .ok (.return_, 1) := by decide +kernel
theorem dX12_listens_0 : decode cX12_listens 0 = .ok (.iconst 0, 1) := by decide +kernel
theorem dX12_listens_1 : decode cX12_listens 1 = .ok (.istore 4, 2) := by decide +kernel
theorem dX12_listens_3 : decode cX12_listens 3 = .ok (.iconst (-1), 1) := by decide +kernel
theorem dX12_listens_4 : decode cX12_listens 4 = .ok (.istore 5, 2) := by decide +kernel
theorem dX12_listens_6 : decode cX12_listens 6 = .ok (.iconst 0, 1) := by decide +kernel
theorem dX12_listens_7 : decode cX12_listens 7 = .ok (.istore 6, 2) := by decide +kernel
theorem dX12_listens_9 : decode cX12_listens 9 = .ok (.iload 6, 2) := by decide +kernel
theorem dX12_listens_11 : decode cX12_listens 11 = .ok (.aload_n 0, 1) := by decide +kernel
theorem dX12_listens_12 : decode cX12_listens 12 = .ok (.getfield 265, 3) := by decide +kernel
theorem dX12_listens_15 : decode cX12_listens 15 = .ok (.if_icmp .ge 70, 3) := by decide +kernel
theorem dX12_listens_18 : decode cX12_listens 18 = .ok (.aload_n 0, 1) := by decide +kernel
theorem dX12_listens_19 : decode cX12_listens 19 = .ok (.getfield 71, 3) := by decide +kernel
theorem dX12_listens_22 : decode cX12_listens 22 = .ok (.iload 6, 2) := by decide +kernel
theorem dX12_listens_24 : decode cX12_listens 24 = .ok (.iaload, 1) := by decide +kernel
theorem dX12_listens_25 : decode cX12_listens 25 = .ok (.iload_n 1, 1) := by decide +kernel
theorem dX12_listens_26 : decode cX12_listens 26 = .ok (.if_icmp .ne 7, 3) := by decide +kernel
theorem dX12_listens_29 : decode cX12_listens 29 = .ok (.iconst 0, 1) := by decide +kernel
theorem dX12_listens_30 : decode cX12_listens 30 = .ok (.goto 27, 3) := by decide +kernel
theorem dX12_listens_33 : decode cX12_listens 33 = .ok (.aload_n 0, 1) := by decide +kernel
theorem dX12_listens_34 : decode cX12_listens 34 = .ok (.aload_n 0, 1) := by decide +kernel
theorem dX12_listens_35 : decode cX12_listens 35 = .ok (.getfield 62, 3) := by decide +kernel
theorem dX12_listens_38 : decode cX12_listens 38 = .ok (.iload 6, 2) := by decide +kernel
theorem dX12_listens_40 : decode cX12_listens 40 = .ok (.iaload, 1) := by decide +kernel
theorem dX12_listens_41 : decode cX12_listens 41 = .ok (.aload_n 0, 1) := by decide +kernel
theorem dX12_listens_42 : decode cX12_listens 42 = .ok (.getfield 65, 3) := by decide +kernel
theorem dX12_listens_45 : decode cX12_listens 45 = .ok (.iload 6, 2) := by decide +kernel
theorem dX12_listens_47 : decode cX12_listens 47 = .ok (.iaload, 1) := by decide +kernel
theorem dX12_listens_48 : decode cX12_listens 48 = .ok (.aload_n 0, 1) := by decide +kernel
theorem dX12_listens_49 : decode cX12_listens 49 = .ok (.iload_n 1, 1) := by decide +kernel
theorem dX12_listens_50 : decode cX12_listens 50 = .ok (.invokevirtual 272, 3) := by decide +kernel
theorem dX12_listens_53 : decode cX12_listens 53 = .ok (.iload_n 3, 1) := by decide +kernel
theorem dX12_listens_54 : decode cX12_listens 54 = .ok (.invokevirtual 261, 3) := by decide +kernel
theorem dX12_listens_57 : decode cX12_listens 57 = .ok (.istore 7, 2) := by decide +kernel
theorem dX12_listens_59 : decode cX12_listens 59 = .ok (.iload 7, 2) := by decide +kernel
theorem dX12_listens_61 : decode cX12_listens 61 = .ok (.iload 4, 2) := by decide +kernel
theorem dX12_listens_63 : decode cX12_listens 63 = .ok (.if_icmp .le 16, 3) := by decide +kernel
theorem dX12_listens_66 : decode cX12_listens 66 = .ok (.iload 7, 2) := by decide +kernel
theorem dX12_listens_68 : decode cX12_listens 68 = .ok (.istore 4, 2) := by decide +kernel
theorem dX12_listens_70 : decode cX12_listens 70 = .ok (.aload_n 0, 1) := by decide +kernel
theorem dX12_listens_71 : decode cX12_listens 71 = .ok (.getfield 68, 3) := by decide +kernel
theorem dX12_listens_74 : decode cX12_listens 74 = .ok (.iload 6, 2) := by decide +kernel
theorem dX12_listens_76 : decode cX12_listens 76 = .ok (.iaload, 1) := by decide +kernel
theorem dX12_listens_77 : decode cX12_listens 77 = .ok (.istore 5, 2) := by decide +kernel
theorem dX12_listens_79 : decode cX12_listens 79 = .ok (.iinc 6 1, 3) := by decide +kernel
theorem dX12_listens_82 : decode cX12_listens 82 = .ok (.goto (-73), 3) := by decide +kernel
theorem dX12_listens_85 : decode cX12_listens 85 = .ok (.aload_n 0, 1) := by decide +kernel
theorem dX12_listens_86 : decode cX12_listens 86 = .ok (.getfield 38, 3) := by decide +kernel
theorem dX12_listens_89 : decode cX12_listens 89 = .ok (.iload_n 1, 1) := by decide +kernel
theorem dX12_listens_90 : decode cX12_listens 90 = .ok (.iaload, 1) := by decide +kernel
theorem dX12_listens_91 : decode cX12_listens 91 = .ok (.iconst 2, 1) := by decide +kernel
theorem dX12_listens_92 : decode cX12_listens 92 = .ok (.if_icmp .ne 90, 3) := by decide +kernel
theorem dX12_listens_95 : decode cX12_listens 95 = .ok (.iload 4, 2) := by decide +kernel
theorem dX12_listens_97 : decode cX12_listens 97 = .ok (.aload_n 0, 1) := by decide +kernel
theorem dX12_listens_98 : decode cX12_listens 98 = .ok (.iload_n 1, 1) := by decide +kernel
theorem dX12_listens_99 : decode cX12_listens 99 = .ok (.iconst 0, 1) := by decide +kernel
theorem dX12_listens_100 : decode cX12_listens 100 = .ok (.invokevirtual 147, 3) := by decide +kernel
theorem dX12_listens_103 : decode cX12_listens 103 = .ok (.iconst 4, 1) := by decide +kernel
theorem dX12_listens_104 : decode cX12_listens 104 = .ok (.iload_n 2, 1) := by decide +kernel
theorem dX12_listens_105 : decode cX12_listens 105 = .ok (.aload_n 0, 1) := by decide +kernel
theorem dX12_listens_106 : decode cX12_listens 106 = .ok (.getfield 41, 3) := by decide +kernel
theorem dX12_listens_109 : decode cX12_listens 109 = .ok (.iload_n 1, 1) := by decide +kernel
theorem dX12_listens_110 : decode cX12_listens 110 = .ok (.iaload, 1) := by decide +kernel
theorem dX12_listens_111 : decode cX12_listens 111 = .ok (.isub, 1) := by decide +kernel
theorem dX12_listens_112 : decode cX12_listens 112 = .ok (.invokestatic 279, 3) := by decide +kernel
theorem dX12_listens_115 : decode cX12_listens 115 = .ok (.imul, 1) := by decide +kernel
theorem dX12_listens_116 : decode cX12_listens 116 = .ok (.iadd, 1) := by decide +kernel
theorem dX12_listens_117 : decode cX12_listens 117 = .ok (.if_icmp .lt 123, 3) := by decide +kernel
theorem dX12_listens_120 : decode cX12_listens 120 = .ok (.aload_n 0, 1) := by decide +kernel
theorem dX12_listens_121 : decode cX12_listens 121 = .ok (.getfield 38, 3) := by decide +kernel
theorem dX12_listens_124 : decode cX12_listens 124 = .ok (.iload_n 1, 1) := by decide +kernel
theorem dX12_listens_125 : decode cX12_listens 125 = .ok (.iconst 1, 1) := by decide +kernel
theorem dX12_listens_126 : decode cX12_listens 126 = .ok (.iastore, 1) := by decide +kernel
theorem dX12_listens_127 : decode cX12_listens 127 = .ok (.aload_n 0, 1) := by decide +kernel
theorem dX12_listens_128 : decode cX12_listens 128 = .ok (.getfield 44, 3) := by decide +kernel
theorem dX12_listens_131 : decode cX12_listens 131 = .ok (.iload_n 1, 1) := by decide +kernel
theorem dX12_listens_132 : decode cX12_listens 132 = .ok (.iconst 0, 1) := by decide +kernel
theorem dX12_listens_133 : decode cX12_listens 133 = .ok (.iastore, 1) := by decide +kernel
theorem dX12_listens_134 : decode cX12_listens 134 = .ok (.aload_n 0, 1) := by decide +kernel
theorem dX12_listens_135 : decode cX12_listens 135 = .ok (.getfield 56, 3) := by decide +kernel
theorem dX12_listens_138 : decode cX12_listens 138 = .ok (.bipush 40, 2) := by decide +kernel
theorem dX12_listens_140 : decode cX12_listens 140 = .ok (.iload_n 1, 1) := by decide +kernel
theorem dX12_listens_141 : decode cX12_listens 141 = .ok (.imul, 1) := by decide +kernel
theorem dX12_listens_142 : decode cX12_listens 142 = .ok (.aload_n 0, 1) := by decide +kernel
theorem dX12_listens_143 : decode cX12_listens 143 = .ok (.getfield 53, 3) := by decide +kernel
theorem dX12_listens_146 : decode cX12_listens 146 = .ok (.iload_n 1, 1) := by decide +kernel
theorem dX12_listens_147 : decode cX12_listens 147 = .ok (.iaload, 1) := by decide +kernel
theorem dX12_listens_148 : decode cX12_listens 148 = .ok (.iadd, 1) := by decide +kernel
theorem dX12_listens_149 : decode cX12_listens 149 = .ok (.iload_n 2, 1) := by decide +kernel
theorem dX12_listens_150 : decode cX12_listens 150 = .ok (.iastore, 1) := by decide +kernel
theorem dX12_listens_151 : decode cX12_listens 151 = .ok (.aload_n 0, 1) := by decide +kernel
theorem dX12_listens_152 : decode cX12_listens 152 = .ok (.getfield 59, 3) := by decide +kernel
theorem dX12_listens_155 : decode cX12_listens 155 = .ok (.bipush 40, 2) := by decide +kernel
theorem dX12_listens_157 : decode cX12_listens 157 = .ok (.iload_n 1, 1) := by decide +kernel
theorem dX12_listens_158 : decode cX12_listens 158 = .ok (.imul, 1) := by decide +kernel
theorem dX12_listens_159 : decode cX12_listens 159 = .ok (.aload_n 0, 1) := by decide +kernel
theorem dX12_listens_160 : decode cX12_listens 160 = .ok (.getfield 53, 3) := by decide +kernel
theorem dX12_listens_163 : decode cX12_listens 163 = .ok (.iload_n 1, 1) := by decide +kernel
theorem dX12_listens_164 : decode cX12_listens 164 = .ok (.iaload, 1) := by decide +kernel
theorem dX12_listens_165 : decode cX12_listens 165 = .ok (.iadd, 1) := by decide +kernel
theorem dX12_listens_166 : decode cX12_listens 166 = .ok (.iload 5, 2) := by decide +kernel
theorem dX12_listens_168 : decode cX12_listens 168 = .ok (.iastore, 1) := by decide +kernel
theorem dX12_listens_169 : decode cX12_listens 169 = .ok (.aload_n 0, 1) := by decide +kernel
theorem dX12_listens_170 : decode cX12_listens 170 = .ok (.getfield 53, 3) := by decide +kernel
theorem dX12_listens_173 : decode cX12_listens 173 = .ok (.iload_n 1, 1) := by decide +kernel
theorem dX12_listens_174 : decode cX12_listens 174 = .ok (.dup2, 1) := by decide +kernel
theorem dX12_listens_175 : decode cX12_listens 175 = .ok (.iaload, 1) := by decide +kernel
theorem dX12_listens_176 : decode cX12_listens 176 = .ok (.iconst 1, 1) := by decide +kernel
theorem dX12_listens_177 : decode cX12_listens 177 = .ok (.iadd, 1) := by decide +kernel
theorem dX12_listens_178 : decode cX12_listens 178 = .ok (.iastore, 1) := by decide +kernel
theorem dX12_listens_179 : decode cX12_listens 179 = .ok (.goto 61, 3) := by decide +kernel
theorem dX12_listens_182 : decode cX12_listens 182 = .ok (.aload_n 0, 1) := by decide +kernel
theorem dX12_listens_183 : decode cX12_listens 183 = .ok (.getfield 44, 3) := by decide +kernel
theorem dX12_listens_186 : decode cX12_listens 186 = .ok (.iload_n 1, 1) := by decide +kernel
theorem dX12_listens_187 : decode cX12_listens 187 = .ok (.iload 4, 2) := by decide +kernel
theorem dX12_listens_189 : decode cX12_listens 189 = .ok (.aload_n 0, 1) := by decide +kernel
theorem dX12_listens_190 : decode cX12_listens 190 = .ok (.iload_n 1, 1) := by decide +kernel
theorem dX12_listens_191 : decode cX12_listens 191 = .ok (.iconst 0, 1) := by decide +kernel
theorem dX12_listens_192 : decode cX12_listens 192 = .ok (.invokevirtual 147, 3) := by decide +kernel
theorem dX12_listens_195 : decode cX12_listens 195 = .ok (.if_icmp .ge 14, 3) := by decide +kernel
theorem dX12_listens_198 : decode cX12_listens 198 = .ok (.aload_n 0, 1) := by decide +kernel
theorem dX12_listens_199 : decode cX12_listens 199 = .ok (.getfield 44, 3) := by decide +kernel
theorem dX12_listens_202 : decode cX12_listens 202 = .ok (.iload_n 1, 1) := by decide +kernel
theorem dX12_listens_203 : decode cX12_listens 203 = .ok (.iaload, 1) := by decide +kernel
theorem dX12_listens_204 : decode cX12_listens 204 = .ok (.iconst 1, 1) := by decide +kernel
theorem dX12_listens_205 : decode cX12_listens 205 = .ok (.iadd, 1) := by decide +kernel
theorem dX12_listens_206 : decode cX12_listens 206 = .ok (.goto 4, 3) := by decide +kernel
theorem dX12_listens_209 : decode cX12_listens 209 = .ok (.iconst 0, 1) := by decide +kernel
theorem dX12_listens_210 : decode cX12_listens 210 = .ok (.iastore, 1) := by decide +kernel
theorem dX12_listens_211 : decode cX12_listens 211 = .ok (.aload_n 0, 1) := by decide +kernel
theorem dX12_listens_212 : decode cX12_listens 212 = .ok (.getfield 44, 3) := by decide +kernel
theorem dX12_listens_215 : decode cX12_listens 215 = .ok (.iload_n 1, 1) := by decide +kernel
theorem dX12_listens_216 : decode cX12_listens 216 = .ok (.iaload, 1) := by decide +kernel
theorem dX12_listens_217 : decode cX12_listens 217 = .ok (.aload_n 0, 1) := by decide +kernel
theorem dX12_listens_218 : decode cX12_listens 218 = .ok (.iload_n 1, 1) := by decide +kernel
theorem dX12_listens_219 : decode cX12_listens 219 = .ok (.iconst 1, 1) := by decide +kernel
theorem dX12_listens_220 : decode cX12_listens 220 = .ok (.invokevirtual 147, 3) := by decide +kernel
theorem dX12_listens_223 : decode cX12_listens 223 = .ok (.if_icmp .ne 17, 3) := by decide +kernel
theorem dX12_listens_226 : decode cX12_listens 226 = .ok (.aload_n 0, 1) := by decide +kernel
theorem dX12_listens_227 : decode cX12_listens 227 = .ok (.getfield 38, 3) := by decide +kernel
theorem dX12_listens_230 : decode cX12_listens 230 = .ok (.iload_n 1, 1) := by decide +kernel
theorem dX12_listens_231 : decode cX12_listens 231 = .ok (.iconst 2, 1) := by decide +kernel
theorem dX12_listens_232 : decode cX12_listens 232 = .ok (.iastore, 1) := by decide +kernel
theorem dX12_listens_233 : decode cX12_listens 233 = .ok (.aload_n 0, 1) := by decide +kernel
theorem dX12_listens_234 : decode cX12_listens 234 = .ok (.getfield 41, 3) := by decide +kernel
theorem dX12_listens_237 : decode cX12_listens 237 = .ok (.iload_n 1, 1) := by decide +kernel
theorem dX12_listens_238 : decode cX12_listens 238 = .ok (.iload_n 2, 1) := by decide +kernel
theorem dX12_listens_239 : decode cX12_listens 239 = .ok (.iastore, 1) := by decide +kernel
theorem dX12_listens_240 : decode cX12_listens 240 = .ok (.return_, 1) := by decide +kernel
theorem dX12_nights_0 : decode cX12_nights 0 = .ok (.iconst 0, 1) := by decide +kernel
theorem dX12_nights_1 : decode cX12_nights 1 = .ok (.istore_n 1, 1) := by decide +kernel
theorem dX12_nights_2 : decode cX12_nights 2 = .ok (.iload_n 1, 1) := by decide +kernel
theorem dX12_nights_3 : decode cX12_nights 3 = .ok (.aload_n 0, 1) := by decide +kernel
theorem dX12_nights_4 : decode cX12_nights 4 = .ok (.getfield 7, 3) := by decide +kernel
theorem dX12_nights_7 : decode cX12_nights 7 = .ok (.iconst 2, 1) := by decide +kernel
theorem dX12_nights_8 : decode cX12_nights 8 = .ok (.iaload, 1) := by decide +kernel
theorem dX12_nights_9 : decode cX12_nights 9 = .ok (.if_icmp .ge 37, 3) := by decide +kernel
theorem dX12_nights_12 : decode cX12_nights 12 = .ok (.aload_n 0, 1) := by decide +kernel
theorem dX12_nights_13 : decode cX12_nights 13 = .ok (.getfield 38, 3) := by decide +kernel
theorem dX12_nights_16 : decode cX12_nights 16 = .ok (.iload_n 1, 1) := by decide +kernel
theorem dX12_nights_17 : decode cX12_nights 17 = .ok (.iconst 0, 1) := by decide +kernel
theorem dX12_nights_18 : decode cX12_nights 18 = .ok (.iastore, 1) := by decide +kernel
theorem dX12_nights_19 : decode cX12_nights 19 = .ok (.aload_n 0, 1) := by decide +kernel
theorem dX12_nights_20 : decode cX12_nights 20 = .ok (.getfield 44, 3) := by decide +kernel
theorem dX12_nights_23 : decode cX12_nights 23 = .ok (.iload_n 1, 1) := by decide +kernel
theorem dX12_nights_24 : decode cX12_nights 24 = .ok (.iconst 0, 1) := by decide +kernel
theorem dX12_nights_25 : decode cX12_nights 25 = .ok (.iastore, 1) := by decide +kernel
theorem dX12_nights_26 : decode cX12_nights 26 = .ok (.aload_n 0, 1) := by decide +kernel
theorem dX12_nights_27 : decode cX12_nights 27 = .ok (.getfield 47, 3) := by decide +kernel
theorem dX12_nights_30 : decode cX12_nights 30 = .ok (.iload_n 1, 1) := by decide +kernel
theorem dX12_nights_31 : decode cX12_nights 31 = .ok (.iconst 0, 1) := by decide +kernel
theorem dX12_nights_32 : decode cX12_nights 32 = .ok (.iastore, 1) := by decide +kernel
theorem dX12_nights_33 : decode cX12_nights 33 = .ok (.aload_n 0, 1) := by decide +kernel
theorem dX12_nights_34 : decode cX12_nights 34 = .ok (.getfield 53, 3) := by decide +kernel
theorem dX12_nights_37 : decode cX12_nights 37 = .ok (.iload_n 1, 1) := by decide +kernel
theorem dX12_nights_38 : decode cX12_nights 38 = .ok (.iconst 0, 1) := by decide +kernel
theorem dX12_nights_39 : decode cX12_nights 39 = .ok (.iastore, 1) := by decide +kernel
theorem dX12_nights_40 : decode cX12_nights 40 = .ok (.iinc 1 1, 3) := by decide +kernel
theorem dX12_nights_43 : decode cX12_nights 43 = .ok (.goto (-41), 3) := by decide +kernel
theorem dX12_nights_46 : decode cX12_nights 46 = .ok (.iconst 0, 1) := by decide +kernel
theorem dX12_nights_47 : decode cX12_nights 47 = .ok (.istore_n 1, 1) := by decide +kernel
theorem dX12_nights_48 : decode cX12_nights 48 = .ok (.iload_n 1, 1) := by decide +kernel
theorem dX12_nights_49 : decode cX12_nights 49 = .ok (.bipush 40, 2) := by decide +kernel
theorem dX12_nights_51 : decode cX12_nights 51 = .ok (.if_icmp .ge 136, 3) := by decide +kernel
theorem dX12_nights_54 : decode cX12_nights 54 = .ok (.aload_n 0, 1) := by decide +kernel
theorem dX12_nights_55 : decode cX12_nights 55 = .ok (.iconst 0, 1) := by decide +kernel
theorem dX12_nights_56 : decode cX12_nights 56 = .ok (.putfield 265, 3) := by decide +kernel
theorem dX12_nights_59 : decode cX12_nights 59 = .ok (.aload_n 0, 1) := by decide +kernel
theorem dX12_nights_60 : decode cX12_nights 60 = .ok (.iload_n 1, 1) := by decide +kernel
theorem dX12_nights_61 : decode cX12_nights 61 = .ok (.invokevirtual 282, 3) := by decide +kernel
theorem dX12_nights_64 : decode cX12_nights 64 = .ok (.aload_n 0, 1) := by decide +kernel
theorem dX12_nights_65 : decode cX12_nights 65 = .ok (.iload_n 1, 1) := by decide +kernel
theorem dX12_nights_66 : decode cX12_nights 66 = .ok (.invokevirtual 286, 3) := by decide +kernel
theorem dX12_nights_69 : decode cX12_nights 69 = .ok (.aload_n 0, 1) := by decide +kernel
theorem dX12_nights_70 : decode cX12_nights 70 = .ok (.iload_n 1, 1) := by decide +kernel
theorem dX12_nights_71 : decode cX12_nights 71 = .ok (.invokevirtual 289, 3) := by decide +kernel
theorem dX12_nights_74 : decode cX12_nights 74 = .ok (.aload_n 0, 1) := by decide +kernel
theorem dX12_nights_75 : decode cX12_nights 75 = .ok (.iload_n 1, 1) := by decide +kernel
theorem dX12_nights_76 : decode cX12_nights 76 = .ok (.invokevirtual 258, 3) := by decide +kernel
theorem dX12_nights_79 : decode cX12_nights 79 = .ok (.istore_n 2, 1) := by decide +kernel
theorem dX12_nights_80 : decode cX12_nights 80 = .ok (.iconst 0, 1) := by decide +kernel
theorem dX12_nights_81 : decode cX12_nights 81 = .ok (.istore_n 3, 1) := by decide +kernel
theorem dX12_nights_82 : decode cX12_nights 82 = .ok (.iload_n 3, 1) := by decide +kernel
theorem dX12_nights_83 : decode cX12_nights 83 = .ok (.aload_n 0, 1) := by decide +kernel
theorem dX12_nights_84 : decode cX12_nights 84 = .ok (.getfield 7, 3) := by decide +kernel
theorem dX12_nights_87 : decode cX12_nights 87 = .ok (.iconst 2, 1) := by decide +kernel
theorem dX12_nights_88 : decode cX12_nights 88 = .ok (.iaload, 1) := by decide +kernel
theorem dX12_nights_89 : decode cX12_nights 89 = .ok (.if_icmp .ge 92, 3) := by decide +kernel
theorem dX12_nights_92 : decode cX12_nights 92 = .ok (.aload_n 0, 1) := by decide +kernel
theorem dX12_nights_93 : decode cX12_nights 93 = .ok (.getfield 38, 3) := by decide +kernel
theorem dX12_nights_96 : decode cX12_nights 96 = .ok (.iload_n 3, 1) := by decide +kernel
theorem dX12_nights_97 : decode cX12_nights 97 = .ok (.iaload, 1) := by decide +kernel
theorem dX12_nights_98 : decode cX12_nights 98 = .ok (.ifCond .le 10, 3) := by decide +kernel
theorem dX12_nights_101 : decode cX12_nights 101 = .ok (.aload_n 0, 1) := by decide +kernel
theorem dX12_nights_102 : decode cX12_nights 102 = .ok (.iload_n 3, 1) := by decide +kernel
theorem dX12_nights_103 : decode cX12_nights 103 = .ok (.iload_n 1, 1) := by decide +kernel
theorem dX12_nights_104 : decode cX12_nights 104 = .ok (.iload_n 2, 1) := by decide +kernel
theorem dX12_nights_105 : decode cX12_nights 105 = .ok (.invokevirtual 292, 3) := by decide +kernel
theorem dX12_nights_108 : decode cX12_nights 108 = .ok (.aload_n 0, 1) := by decide +kernel
theorem dX12_nights_109 : decode cX12_nights 109 = .ok (.getfield 47, 3) := by decide +kernel
theorem dX12_nights_112 : decode cX12_nights 112 = .ok (.iload_n 3, 1) := by decide +kernel
theorem dX12_nights_113 : decode cX12_nights 113 = .ok (.dup2, 1) := by decide +kernel
theorem dX12_nights_114 : decode cX12_nights 114 = .ok (.iaload, 1) := by decide +kernel
theorem dX12_nights_115 : decode cX12_nights 115 = .ok (.aload_n 0, 1) := by decide +kernel
theorem dX12_nights_116 : decode cX12_nights 116 = .ok (.getfield 38, 3) := by decide +kernel
theorem dX12_nights_119 : decode cX12_nights 119 = .ok (.iload_n 3, 1) := by decide +kernel
theorem dX12_nights_120 : decode cX12_nights 120 = .ok (.iaload, 1) := by decide +kernel
theorem dX12_nights_121 : decode cX12_nights 121 = .ok (.iconst 2, 1) := by decide +kernel
theorem dX12_nights_122 : decode cX12_nights 122 = .ok (.if_icmp .ne 7, 3) := by decide +kernel
theorem dX12_nights_125 : decode cX12_nights 125 = .ok (.iconst 1, 1) := by decide +kernel
theorem dX12_nights_126 : decode cX12_nights 126 = .ok (.goto 4, 3) := by decide +kernel
theorem dX12_nights_129 : decode cX12_nights 129 = .ok (.iconst 0, 1) := by decide +kernel
theorem dX12_nights_130 : decode cX12_nights 130 = .ok (.iadd, 1) := by decide +kernel
theorem dX12_nights_131 : decode cX12_nights 131 = .ok (.iastore, 1) := by decide +kernel
theorem dX12_nights_132 : decode cX12_nights 132 = .ok (.aload_n 0, 1) := by decide +kernel
theorem dX12_nights_133 : decode cX12_nights 133 = .ok (.getfield 50, 3) := by decide +kernel
theorem dX12_nights_136 : decode cX12_nights 136 = .ok (.bipush 40, 2) := by decide +kernel
theorem dX12_nights_138 : decode cX12_nights 138 = .ok (.iload_n 3, 1) := by decide +kernel
theorem dX12_nights_139 : decode cX12_nights 139 = .ok (.imul, 1) := by decide +kernel
theorem dX12_nights_140 : decode cX12_nights 140 = .ok (.iload_n 1, 1) := by decide +kernel
theorem dX12_nights_141 : decode cX12_nights 141 = .ok (.iadd, 1) := by decide +kernel
theorem dX12_nights_142 : decode cX12_nights 142 = .ok (.aload_n 0, 1) := by decide +kernel
theorem dX12_nights_143 : decode cX12_nights 143 = .ok (.getfield 38, 3) := by decide +kernel
theorem dX12_nights_146 : decode cX12_nights 146 = .ok (.iload_n 3, 1) := by decide +kernel
theorem dX12_nights_147 : decode cX12_nights 147 = .ok (.iaload, 1) := by decide +kernel
theorem dX12_nights_148 : decode cX12_nights 148 = .ok (.iconst 2, 1) := by decide +kernel
theorem dX12_nights_149 : decode cX12_nights 149 = .ok (.if_icmp .ne 19, 3) := by decide +kernel
theorem dX12_nights_152 : decode cX12_nights 152 = .ok (.iconst 2, 1) := by decide +kernel
theorem dX12_nights_153 : decode cX12_nights 153 = .ok (.iload_n 1, 1) := by decide +kernel
theorem dX12_nights_154 : decode cX12_nights 154 = .ok (.aload_n 0, 1) := by decide +kernel
theorem dX12_nights_155 : decode cX12_nights 155 = .ok (.getfield 41, 3) := by decide +kernel
theorem dX12_nights_158 : decode cX12_nights 158 = .ok (.iload_n 3, 1) := by decide +kernel
theorem dX12_nights_159 : decode cX12_nights 159 = .ok (.iaload, 1) := by decide +kernel
theorem dX12_nights_160 : decode cX12_nights 160 = .ok (.isub, 1) := by decide +kernel
theorem dX12_nights_161 : decode cX12_nights 161 = .ok (.invokestatic 279, 3) := by decide +kernel
theorem dX12_nights_164 : decode cX12_nights 164 = .ok (.iadd, 1) := by decide +kernel
theorem dX12_nights_165 : decode cX12_nights 165 = .ok (.goto 9, 3) := by decide +kernel
theorem dX12_nights_168 : decode cX12_nights 168 = .ok (.aload_n 0, 1) := by decide +kernel
theorem dX12_nights_169 : decode cX12_nights 169 = .ok (.getfield 38, 3) := by decide +kernel
theorem dX12_nights_172 : decode cX12_nights 172 = .ok (.iload_n 3, 1) := by decide +kernel
theorem dX12_nights_173 : decode cX12_nights 173 = .ok (.iaload, 1) := by decide +kernel
theorem dX12_nights_174 : decode cX12_nights 174 = .ok (.iastore, 1) := by decide +kernel
theorem dX12_nights_175 : decode cX12_nights 175 = .ok (.iinc 3 1, 3) := by decide +kernel
theorem dX12_nights_178 : decode cX12_nights 178 = .ok (.goto (-96), 3) := by decide +kernel
theorem dX12_nights_181 : decode cX12_nights 181 = .ok (.iinc 1 1, 3) := by decide +kernel
theorem dX12_nights_184 : decode cX12_nights 184 = .ok (.goto (-136), 3) := by decide +kernel
theorem dX12_nights_187 : decode cX12_nights 187 = .ok (.aload_n 0, 1) := by decide +kernel
theorem dX12_nights_188 : decode cX12_nights 188 = .ok (.aload_n 0, 1) := by decide +kernel
theorem dX12_nights_189 : decode cX12_nights 189 = .ok (.getfield 7, 3) := by decide +kernel
theorem dX12_nights_192 : decode cX12_nights 192 = .ok (.iconst 2, 1) := by decide +kernel
theorem dX12_nights_193 : decode cX12_nights 193 = .ok (.iaload, 1) := by decide +kernel
theorem dX12_nights_194 : decode cX12_nights 194 = .ok (.ifCond .ne 7, 3) := by decide +kernel
theorem dX12_nights_197 : decode cX12_nights 197 = .ok (.iconst 0, 1) := by decide +kernel
theorem dX12_nights_198 : decode cX12_nights 198 = .ok (.goto 6, 3) := by decide +kernel
theorem dX12_nights_201 : decode cX12_nights 201 = .ok (.ldc_w 295, 3) := by decide +kernel
theorem dX12_nights_204 : decode cX12_nights 204 = .ok (.putfield 296, 3) := by decide +kernel
theorem dX12_nights_207 : decode cX12_nights 207 = .ok (.aload_n 0, 1) := by decide +kernel
theorem dX12_nights_208 : decode cX12_nights 208 = .ok (.iconst 0, 1) := by decide +kernel
theorem dX12_nights_209 : decode cX12_nights 209 = .ok (.putfield 299, 3) := by decide +kernel
theorem dX12_nights_212 : decode cX12_nights 212 = .ok (.iconst 0, 1) := by decide +kernel
theorem dX12_nights_213 : decode cX12_nights 213 = .ok (.istore_n 1, 1) := by decide +kernel
theorem dX12_nights_214 : decode cX12_nights 214 = .ok (.iload_n 1, 1) := by decide +kernel
theorem dX12_nights_215 : decode cX12_nights 215 = .ok (.aload_n 0, 1) := by decide +kernel
theorem dX12_nights_216 : decode cX12_nights 216 = .ok (.getfield 7, 3) := by decide +kernel
theorem dX12_nights_219 : decode cX12_nights 219 = .ok (.iconst 2, 1) := by decide +kernel
theorem dX12_nights_220 : decode cX12_nights 220 = .ok (.iaload, 1) := by decide +kernel
theorem dX12_nights_221 : decode cX12_nights 221 = .ok (.if_icmp .ge 54, 3) := by decide +kernel
theorem dX12_nights_224 : decode cX12_nights 224 = .ok (.aload_n 0, 1) := by decide +kernel
theorem dX12_nights_225 : decode cX12_nights 225 = .ok (.aload_n 0, 1) := by decide +kernel
theorem dX12_nights_226 : decode cX12_nights 226 = .ok (.getfield 47, 3) := by decide +kernel
theorem dX12_nights_229 : decode cX12_nights 229 = .ok (.iload_n 1, 1) := by decide +kernel
theorem dX12_nights_230 : decode cX12_nights 230 = .ok (.iaload, 1) := by decide +kernel
theorem dX12_nights_231 : decode cX12_nights 231 = .ok (.aload_n 0, 1) := by decide +kernel
theorem dX12_nights_232 : decode cX12_nights 232 = .ok (.getfield 296, 3) := by decide +kernel
theorem dX12_nights_235 : decode cX12_nights 235 = .ok (.if_icmp .ge 12, 3) := by decide +kernel
theorem dX12_nights_238 : decode cX12_nights 238 = .ok (.aload_n 0, 1) := by decide +kernel
theorem dX12_nights_239 : decode cX12_nights 239 = .ok (.getfield 47, 3) := by decide +kernel
theorem dX12_nights_242 : decode cX12_nights 242 = .ok (.iload_n 1, 1) := by decide +kernel
theorem dX12_nights_243 : decode cX12_nights 243 = .ok (.iaload, 1) := by decide +kernel
theorem dX12_nights_244 : decode cX12_nights 244 = .ok (.goto 7, 3) := by decide +kernel
theorem dX12_nights_247 : decode cX12_nights 247 = .ok (.aload_n 0, 1) := by decide +kernel
theorem dX12_nights_248 : decode cX12_nights 248 = .ok (.getfield 296, 3) := by decide +kernel
theorem dX12_nights_251 : decode cX12_nights 251 = .ok (.putfield 296, 3) := by decide +kernel
theorem dX12_nights_254 : decode cX12_nights 254 = .ok (.aload_n 0, 1) := by decide +kernel
theorem dX12_nights_255 : decode cX12_nights 255 = .ok (.dup, 1) := by decide +kernel
theorem dX12_nights_256 : decode cX12_nights 256 = .ok (.getfield 299, 3) := by decide +kernel
theorem dX12_nights_259 : decode cX12_nights 259 = .ok (.aload_n 0, 1) := by decide +kernel
theorem dX12_nights_260 : decode cX12_nights 260 = .ok (.getfield 47, 3) := by decide +kernel
theorem dX12_nights_263 : decode cX12_nights 263 = .ok (.iload_n 1, 1) := by decide +kernel
theorem dX12_nights_264 : decode cX12_nights 264 = .ok (.iaload, 1) := by decide +kernel
theorem dX12_nights_265 : decode cX12_nights 265 = .ok (.iadd, 1) := by decide +kernel
theorem dX12_nights_266 : decode cX12_nights 266 = .ok (.putfield 299, 3) := by decide +kernel
theorem dX12_nights_269 : decode cX12_nights 269 = .ok (.iinc 1 1, 3) := by decide +kernel
theorem dX12_nights_272 : decode cX12_nights 272 = .ok (.goto (-58), 3) := by decide +kernel
theorem dX12_nights_275 : decode cX12_nights 275 = .ok (.return_, 1) := by decide +kernel
theorem dX12_slept_0 : decode cX12_slept 0 = .ok (.aload_n 0, 1) := by decide +kernel
theorem dX12_slept_1 : decode cX12_slept 1 = .ok (.iload_n 1, 1) := by decide +kernel
theorem dX12_slept_2 : decode cX12_slept 2 = .ok (.invokevirtual 141, 3) := by decide +kernel
theorem dX12_slept_5 : decode cX12_slept 5 = .ok (.ifCond .ne 8, 3) := by decide +kernel
theorem dX12_slept_8 : decode cX12_slept 8 = .ok (.aload_n 0, 1) := by decide +kernel
theorem dX12_slept_9 : decode cX12_slept 9 = .ok (.invokevirtual 117, 3) := by decide +kernel
theorem dX12_slept_12 : decode cX12_slept 12 = .ok (.ireturn, 1) := by decide +kernel
theorem dX12_slept_13 : decode cX12_slept 13 = .ok (.aload_n 0, 1) := by decide +kernel
theorem dX12_slept_14 : decode cX12_slept 14 = .ok (.invokevirtual 255, 3) := by decide +kernel
theorem dX12_slept_17 : decode cX12_slept 17 = .ok (.aload_n 0, 1) := by decide +kernel
theorem dX12_slept_18 : decode cX12_slept 18 = .ok (.invokevirtual 302, 3) := by decide +kernel
theorem dX12_slept_21 : decode cX12_slept 21 = .ok (.aload_n 0, 1) := by decide +kernel
theorem dX12_slept_22 : decode cX12_slept 22 = .ok (.getfield 47, 3) := by decide +kernel
theorem dX12_slept_25 : decode cX12_slept 25 = .ok (.iload_n 1, 1) := by decide +kernel
theorem dX12_slept_26 : decode cX12_slept 26 = .ok (.iaload, 1) := by decide +kernel
theorem dX12_slept_27 : decode cX12_slept 27 = .ok (.ireturn, 1) := by decide +kernel
theorem dX12_is_0 : decode cX12_is 0 = .ok (.aload_n 0, 1) := by decide +kernel
theorem dX12_is_1 : decode cX12_is 1 = .ok (.iload_n 1, 1) := by decide +kernel
theorem dX12_is_2 : decode cX12_is 2 = .ok (.invokevirtual 141, 3) := by decide +kernel
theorem dX12_is_5 : decode cX12_is 5 = .ok (.ifCond .eq 15, 3) := by decide +kernel
theorem dX12_is_8 : decode cX12_is 8 = .ok (.iload_n 2, 1) := by decide +kernel
theorem dX12_is_9 : decode cX12_is 9 = .ok (.i2l, 1) := by decide +kernel
theorem dX12_is_10 : decode cX12_is 10 = .ok (.lconst 0, 1) := by decide +kernel
theorem dX12_is_11 : decode cX12_is 11 = .ok (.ldc2_w 139, 3) := by decide +kernel
theorem dX12_is_14 : decode cX12_is 14 = .ok (.invokestatic 106, 3) := by decide +kernel
theorem dX12_is_17 : decode cX12_is 17 = .ok (.ifCond .ne 8, 3) := by decide +kernel
theorem dX12_is_20 : decode cX12_is 20 = .ok (.aload_n 0, 1) := by decide +kernel
theorem dX12_is_21 : decode cX12_is 21 = .ok (.invokevirtual 117, 3) := by decide +kernel
theorem dX12_is_24 : decode cX12_is 24 = .ok (.ireturn, 1) := by decide +kernel
theorem dX12_is_25 : decode cX12_is 25 = .ok (.aload_n 0, 1) := by decide +kernel
theorem dX12_is_26 : decode cX12_is 26 = .ok (.invokevirtual 255, 3) := by decide +kernel
theorem dX12_is_29 : decode cX12_is 29 = .ok (.aload_n 0, 1) := by decide +kernel
theorem dX12_is_30 : decode cX12_is 30 = .ok (.invokevirtual 302, 3) := by decide +kernel
theorem dX12_is_33 : decode cX12_is 33 = .ok (.aload_n 0, 1) := by decide +kernel
theorem dX12_is_34 : decode cX12_is 34 = .ok (.getfield 50, 3) := by decide +kernel
theorem dX12_is_37 : decode cX12_is 37 = .ok (.bipush 40, 2) := by decide +kernel
theorem dX12_is_39 : decode cX12_is 39 = .ok (.iload_n 1, 1) := by decide +kernel
theorem dX12_is_40 : decode cX12_is 40 = .ok (.imul, 1) := by decide +kernel
theorem dX12_is_41 : decode cX12_is 41 = .ok (.iload_n 2, 1) := by decide +kernel
theorem dX12_is_42 : decode cX12_is 42 = .ok (.iadd, 1) := by decide +kernel
theorem dX12_is_43 : decode cX12_is 43 = .ok (.iaload, 1) := by decide +kernel
theorem dX12_is_44 : decode cX12_is 44 = .ok (.ireturn, 1) := by decide +kernel
theorem dX12_wakes_0 : decode cX12_wakes 0 = .ok (.aload_n 0, 1) := by decide +kernel
theorem dX12_wakes_1 : decode cX12_wakes 1 = .ok (.iload_n 1, 1) := by decide +kernel
theorem dX12_wakes_2 : decode cX12_wakes 2 = .ok (.invokevirtual 141, 3) := by decide +kernel
theorem dX12_wakes_5 : decode cX12_wakes 5 = .ok (.ifCond .eq 8, 3) := by decide +kernel
theorem dX12_wakes_8 : decode cX12_wakes 8 = .ok (.iload_n 2, 1) := by decide +kernel
theorem dX12_wakes_9 : decode cX12_wakes 9 = .ok (.iconst (-1), 1) := by decide +kernel
theorem dX12_wakes_10 : decode cX12_wakes 10 = .ok (.if_icmp .ge 11, 3) := by decide +kernel
theorem dX12_wakes_13 : decode cX12_wakes 13 = .ok (.aload_n 0, 1) := by decide +kernel
theorem dX12_wakes_14 : decode cX12_wakes 14 = .ok (.iconst 0, 1) := by decide +kernel
theorem dX12_wakes_15 : decode cX12_wakes 15 = .ok (.bipush (-10), 2) := by decide +kernel
theorem dX12_wakes_17 : decode cX12_wakes 17 = .ok (.invokevirtual 100, 3) := by decide +kernel
theorem dX12_wakes_20 : decode cX12_wakes 20 = .ok (.ireturn, 1) := by decide +kernel
theorem dX12_wakes_21 : decode cX12_wakes 21 = .ok (.aload_n 0, 1) := by decide +kernel
theorem dX12_wakes_22 : decode cX12_wakes 22 = .ok (.invokevirtual 255, 3) := by decide +kernel
theorem dX12_wakes_25 : decode cX12_wakes 25 = .ok (.aload_n 0, 1) := by decide +kernel
theorem dX12_wakes_26 : decode cX12_wakes 26 = .ok (.invokevirtual 302, 3) := by decide +kernel
theorem dX12_wakes_29 : decode cX12_wakes 29 = .ok (.iload_n 2, 1) := by decide +kernel
theorem dX12_wakes_30 : decode cX12_wakes 30 = .ok (.iconst (-1), 1) := by decide +kernel
theorem dX12_wakes_31 : decode cX12_wakes 31 = .ok (.if_icmp .ne 12, 3) := by decide +kernel
theorem dX12_wakes_34 : decode cX12_wakes 34 = .ok (.aload_n 0, 1) := by decide +kernel
theorem dX12_wakes_35 : decode cX12_wakes 35 = .ok (.getfield 53, 3) := by decide +kernel
theorem dX12_wakes_38 : decode cX12_wakes 38 = .ok (.iload_n 1, 1) := by decide +kernel
theorem dX12_wakes_39 : decode cX12_wakes 39 = .ok (.iaload, 1) := by decide +kernel
theorem dX12_wakes_40 : decode cX12_wakes 40 = .ok (.goto 44, 3) := by decide +kernel
theorem dX12_wakes_43 : decode cX12_wakes 43 = .ok (.iload_n 2, 1) := by decide +kernel
theorem dX12_wakes_44 : decode cX12_wakes 44 = .ok (.aload_n 0, 1) := by decide +kernel
theorem dX12_wakes_45 : decode cX12_wakes 45 = .ok (.getfield 53, 3) := by decide +kernel
theorem dX12_wakes_48 : decode cX12_wakes 48 = .ok (.iload_n 1, 1) := by decide +kernel
theorem dX12_wakes_49 : decode cX12_wakes 49 = .ok (.iaload, 1) := by decide +kernel
theorem dX12_wakes_50 : decode cX12_wakes 50 = .ok (.if_icmp .ge 32, 3) := by decide +kernel
theorem dX12_wakes_53 : decode cX12_wakes 53 = .ok (.bipush 100, 2) := by decide +kernel
theorem dX12_wakes_55 : decode cX12_wakes 55 = .ok (.aload_n 0, 1) := by decide +kernel
theorem dX12_wakes_56 : decode cX12_wakes 56 = .ok (.getfield 56, 3) := by decide +kernel
theorem dX12_wakes_59 : decode cX12_wakes 59 = .ok (.bipush 40, 2) := by decide +kernel
theorem dX12_wakes_61 : decode cX12_wakes 61 = .ok (.iload_n 1, 1) := by decide +kernel
theorem dX12_wakes_62 : decode cX12_wakes 62 = .ok (.imul, 1) := by decide +kernel
theorem dX12_wakes_63 : decode cX12_wakes 63 = .ok (.iload_n 2, 1) := by decide +kernel
theorem dX12_wakes_64 : decode cX12_wakes 64 = .ok (.iadd, 1) := by decide +kernel
theorem dX12_wakes_65 : decode cX12_wakes 65 = .ok (.iaload, 1) := by decide +kernel
theorem dX12_wakes_66 : decode cX12_wakes 66 = .ok (.imul, 1) := by decide +kernel
theorem dX12_wakes_67 : decode cX12_wakes 67 = .ok (.aload_n 0, 1) := by decide +kernel
theorem dX12_wakes_68 : decode cX12_wakes 68 = .ok (.getfield 59, 3) := by decide +kernel
theorem dX12_wakes_71 : decode cX12_wakes 71 = .ok (.bipush 40, 2) := by decide +kernel
theorem dX12_wakes_73 : decode cX12_wakes 73 = .ok (.iload_n 1, 1) := by decide +kernel
theorem dX12_wakes_74 : decode cX12_wakes 74 = .ok (.imul, 1) := by decide +kernel
theorem dX12_wakes_75 : decode cX12_wakes 75 = .ok (.iload_n 2, 1) := by decide +kernel
theorem dX12_wakes_76 : decode cX12_wakes 76 = .ok (.iadd, 1) := by decide +kernel
theorem dX12_wakes_77 : decode cX12_wakes 77 = .ok (.iaload, 1) := by decide +kernel
theorem dX12_wakes_78 : decode cX12_wakes 78 = .ok (.iadd, 1) := by decide +kernel
theorem dX12_wakes_79 : decode cX12_wakes 79 = .ok (.goto 5, 3) := by decide +kernel
theorem dX12_wakes_82 : decode cX12_wakes 82 = .ok (.bipush (-5), 2) := by decide +kernel
theorem dX12_wakes_84 : decode cX12_wakes 84 = .ok (.ireturn, 1) := by decide +kernel
theorem dX12_wokeBy_0 : decode cX12_wokeBy 0 = .ok (.iconst 0, 1) := by decide +kernel
theorem dX12_wokeBy_1 : decode cX12_wokeBy 1 = .ok (.istore_n 3, 1) := by decide +kernel
theorem dX12_wokeBy_2 : decode cX12_wokeBy 2 = .ok (.iconst 0, 1) := by decide +kernel
theorem dX12_wokeBy_3 : decode cX12_wokeBy 3 = .ok (.istore 4, 2) := by decide +kernel
theorem dX12_wokeBy_5 : decode cX12_wokeBy 5 = .ok (.iload 4, 2) := by decide +kernel
theorem dX12_wokeBy_7 : decode cX12_wokeBy 7 = .ok (.aload_n 0, 1) := by decide +kernel
theorem dX12_wokeBy_8 : decode cX12_wokeBy 8 = .ok (.getfield 53, 3) := by decide +kernel
theorem dX12_wokeBy_11 : decode cX12_wokeBy 11 = .ok (.iload_n 2, 1) := by decide +kernel
theorem dX12_wokeBy_12 : decode cX12_wokeBy 12 = .ok (.iaload, 1) := by decide +kernel
theorem dX12_wokeBy_13 : decode cX12_wokeBy 13 = .ok (.if_icmp .ge 33, 3) := by decide +kernel
theorem dX12_wokeBy_16 : decode cX12_wokeBy 16 = .ok (.iload_n 3, 1) := by decide +kernel
theorem dX12_wokeBy_17 : decode cX12_wokeBy 17 = .ok (.aload_n 0, 1) := by decide +kernel
theorem dX12_wokeBy_18 : decode cX12_wokeBy 18 = .ok (.getfield 59, 3) := by decide +kernel
theorem dX12_wokeBy_21 : decode cX12_wokeBy 21 = .ok (.bipush 40, 2) := by decide +kernel
theorem dX12_wokeBy_23 : decode cX12_wokeBy 23 = .ok (.iload_n 2, 1) := by decide +kernel
theorem dX12_wokeBy_24 : decode cX12_wokeBy 24 = .ok (.imul, 1) := by decide +kernel
theorem dX12_wokeBy_25 : decode cX12_wokeBy 25 = .ok (.iload 4, 2) := by decide +kernel
theorem dX12_wokeBy_27 : decode cX12_wokeBy 27 = .ok (.iadd, 1) := by decide +kernel
theorem dX12_wokeBy_28 : decode cX12_wokeBy 28 = .ok (.iaload, 1) := by decide +kernel
theorem dX12_wokeBy_29 : decode cX12_wokeBy 29 = .ok (.iload_n 1, 1) := by decide +kernel
theorem dX12_wokeBy_30 : decode cX12_wokeBy 30 = .ok (.if_icmp .ne 7, 3) := by decide +kernel
theorem dX12_wokeBy_33 : decode cX12_wokeBy 33 = .ok (.iconst 1, 1) := by decide +kernel
theorem dX12_wokeBy_34 : decode cX12_wokeBy 34 = .ok (.goto 4, 3) := by decide +kernel
theorem dX12_wokeBy_37 : decode cX12_wokeBy 37 = .ok (.iconst 0, 1) := by decide +kernel
theorem dX12_wokeBy_38 : decode cX12_wokeBy 38 = .ok (.iadd, 1) := by decide +kernel
theorem dX12_wokeBy_39 : decode cX12_wokeBy 39 = .ok (.istore_n 3, 1) := by decide +kernel
theorem dX12_wokeBy_40 : decode cX12_wokeBy 40 = .ok (.iinc 4 1, 3) := by decide +kernel
theorem dX12_wokeBy_43 : decode cX12_wokeBy 43 = .ok (.goto (-38), 3) := by decide +kernel
theorem dX12_wokeBy_46 : decode cX12_wokeBy 46 = .ok (.iload_n 3, 1) := by decide +kernel
theorem dX12_wokeBy_47 : decode cX12_wokeBy 47 = .ok (.ireturn, 1) := by decide +kernel
theorem dX12_woke_0 : decode cX12_woke 0 = .ok (.aload_n 0, 1) := by decide +kernel
theorem dX12_woke_1 : decode cX12_woke 1 = .ok (.iload_n 1, 1) := by decide +kernel
theorem dX12_woke_2 : decode cX12_woke 2 = .ok (.invokevirtual 141, 3) := by decide +kernel
theorem dX12_woke_5 : decode cX12_woke 5 = .ok (.ifCond .eq 16, 3) := by decide +kernel
theorem dX12_woke_8 : decode cX12_woke 8 = .ok (.aload_n 0, 1) := by decide +kernel
theorem dX12_woke_9 : decode cX12_woke 9 = .ok (.iload_n 2, 1) := by decide +kernel
theorem dX12_woke_10 : decode cX12_woke 10 = .ok (.invokevirtual 141, 3) := by decide +kernel
theorem dX12_woke_13 : decode cX12_woke 13 = .ok (.ifCond .eq 8, 3) := by decide +kernel
theorem dX12_woke_16 : decode cX12_woke 16 = .ok (.iload_n 1, 1) := by decide +kernel
theorem dX12_woke_17 : decode cX12_woke 17 = .ok (.iload_n 2, 1) := by decide +kernel
theorem dX12_woke_18 : decode cX12_woke 18 = .ok (.if_icmp .ne 8, 3) := by decide +kernel
theorem dX12_woke_21 : decode cX12_woke 21 = .ok (.aload_n 0, 1) := by decide +kernel
theorem dX12_woke_22 : decode cX12_woke 22 = .ok (.invokevirtual 117, 3) := by decide +kernel
theorem dX12_woke_25 : decode cX12_woke 25 = .ok (.ireturn, 1) := by decide +kernel
theorem dX12_woke_26 : decode cX12_woke 26 = .ok (.aload_n 0, 1) := by decide +kernel
theorem dX12_woke_27 : decode cX12_woke 27 = .ok (.invokevirtual 255, 3) := by decide +kernel
theorem dX12_woke_30 : decode cX12_woke 30 = .ok (.aload_n 0, 1) := by decide +kernel
theorem dX12_woke_31 : decode cX12_woke 31 = .ok (.invokevirtual 302, 3) := by decide +kernel
theorem dX12_woke_34 : decode cX12_woke 34 = .ok (.aload_n 0, 1) := by decide +kernel
theorem dX12_woke_35 : decode cX12_woke 35 = .ok (.iload_n 1, 1) := by decide +kernel
theorem dX12_woke_36 : decode cX12_woke 36 = .ok (.iload_n 2, 1) := by decide +kernel
theorem dX12_woke_37 : decode cX12_woke 37 = .ok (.invokevirtual 305, 3) := by decide +kernel
theorem dX12_woke_40 : decode cX12_woke 40 = .ok (.ireturn, 1) := by decide +kernel
theorem dX12_night_0 : decode cX12_night 0 = .ok (.iload_n 1, 1) := by decide +kernel
theorem dX12_night_1 : decode cX12_night 1 = .ok (.i2l, 1) := by decide +kernel
theorem dX12_night_2 : decode cX12_night 2 = .ok (.lconst 0, 1) := by decide +kernel
theorem dX12_night_3 : decode cX12_night 3 = .ok (.lconst 1, 1) := by decide +kernel
theorem dX12_night_4 : decode cX12_night 4 = .ok (.invokestatic 106, 3) := by decide +kernel
theorem dX12_night_7 : decode cX12_night 7 = .ok (.ifCond .ne 8, 3) := by decide +kernel
theorem dX12_night_10 : decode cX12_night 10 = .ok (.aload_n 0, 1) := by decide +kernel
theorem dX12_night_11 : decode cX12_night 11 = .ok (.invokevirtual 117, 3) := by decide +kernel
theorem dX12_night_14 : decode cX12_night 14 = .ok (.ireturn, 1) := by decide +kernel
theorem dX12_night_15 : decode cX12_night 15 = .ok (.aload_n 0, 1) := by decide +kernel
theorem dX12_night_16 : decode cX12_night 16 = .ok (.invokevirtual 255, 3) := by decide +kernel
theorem dX12_night_19 : decode cX12_night 19 = .ok (.aload_n 0, 1) := by decide +kernel
theorem dX12_night_20 : decode cX12_night 20 = .ok (.invokevirtual 302, 3) := by decide +kernel
theorem dX12_night_23 : decode cX12_night 23 = .ok (.iload_n 1, 1) := by decide +kernel
theorem dX12_night_24 : decode cX12_night 24 = .ok (.ifCond .ne 10, 3) := by decide +kernel
theorem dX12_night_27 : decode cX12_night 27 = .ok (.aload_n 0, 1) := by decide +kernel
theorem dX12_night_28 : decode cX12_night 28 = .ok (.getfield 296, 3) := by decide +kernel
theorem dX12_night_31 : decode cX12_night 31 = .ok (.goto 7, 3) := by decide +kernel
theorem dX12_night_34 : decode cX12_night 34 = .ok (.aload_n 0, 1) := by decide +kernel
theorem dX12_night_35 : decode cX12_night 35 = .ok (.getfield 299, 3) := by decide +kernel
theorem dX12_night_38 : decode cX12_night 38 = .ok (.ireturn, 1) := by decide +kernel
theorem dX12_paths_0 : decode cX12_paths 0 = .ok (.iconst 0, 1) := by decide +kernel
theorem dX12_paths_1 : decode cX12_paths 1 = .ok (.istore 4, 2) := by decide +kernel
theorem dX12_paths_3 : decode cX12_paths 3 = .ok (.iload 4, 2) := by decide +kernel
theorem dX12_paths_5 : decode cX12_paths 5 = .ok (.bipush 36, 2) := by decide +kernel
theorem dX12_paths_7 : decode cX12_paths 7 = .ok (.if_icmp .ge 19, 3) := by decide +kernel
theorem dX12_paths_10 : decode cX12_paths 10 = .ok (.aload_n 0, 1) := by decide +kernel
theorem dX12_paths_11 : decode cX12_paths 11 = .ok (.getfield 77, 3) := by decide +kernel
theorem dX12_paths_14 : decode cX12_paths 14 = .ok (.iload 4, 2) := by decide +kernel
theorem dX12_paths_16 : decode cX12_paths 16 = .ok (.sipush 1000, 3) := by decide +kernel
theorem dX12_paths_19 : decode cX12_paths 19 = .ok (.iastore, 1) := by decide +kernel
theorem dX12_paths_20 : decode cX12_paths 20 = .ok (.iinc 4 1, 3) := by decide +kernel
theorem dX12_paths_23 : decode cX12_paths 23 = .ok (.goto (-20), 3) := by decide +kernel
theorem dX12_paths_26 : decode cX12_paths 26 = .ok (.aload_n 0, 1) := by decide +kernel
theorem dX12_paths_27 : decode cX12_paths 27 = .ok (.getfield 77, 3) := by decide +kernel
theorem dX12_paths_30 : decode cX12_paths 30 = .ok (.iload_n 2, 1) := by decide +kernel
theorem dX12_paths_31 : decode cX12_paths 31 = .ok (.iload_n 1, 1) := by decide +kernel
theorem dX12_paths_32 : decode cX12_paths 32 = .ok (.iload_n 2, 1) := by decide +kernel
theorem dX12_paths_33 : decode cX12_paths 33 = .ok (.if_icmp .eq 13, 3) := by decide +kernel
theorem dX12_paths_36 : decode cX12_paths 36 = .ok (.aload_n 0, 1) := by decide +kernel
theorem dX12_paths_37 : decode cX12_paths 37 = .ok (.getfield 74, 3) := by decide +kernel
theorem dX12_paths_40 : decode cX12_paths 40 = .ok (.iload_n 2, 1) := by decide +kernel
theorem dX12_paths_41 : decode cX12_paths 41 = .ok (.iaload, 1) := by decide +kernel
theorem dX12_paths_42 : decode cX12_paths 42 = .ok (.iload_n 3, 1) := by decide +kernel
theorem dX12_paths_43 : decode cX12_paths 43 = .ok (.if_icmp .gt 7, 3) := by decide +kernel
theorem dX12_paths_46 : decode cX12_paths 46 = .ok (.iconst 0, 1) := by decide +kernel
theorem dX12_paths_47 : decode cX12_paths 47 = .ok (.goto 6, 3) := by decide +kernel
theorem dX12_paths_50 : decode cX12_paths 50 = .ok (.sipush 1000, 3) := by decide +kernel
theorem dX12_paths_53 : decode cX12_paths 53 = .ok (.iastore, 1) := by decide +kernel
theorem dX12_paths_54 : decode cX12_paths 54 = .ok (.iconst 1, 1) := by decide +kernel
theorem dX12_paths_55 : decode cX12_paths 55 = .ok (.istore 4, 2) := by decide +kernel
theorem dX12_paths_57 : decode cX12_paths 57 = .ok (.iconst 0, 1) := by decide +kernel
theorem dX12_paths_58 : decode cX12_paths 58 = .ok (.istore 5, 2) := by decide +kernel
theorem dX12_paths_60 : decode cX12_paths 60 = .ok (.iload 4, 2) := by decide +kernel
theorem dX12_paths_62 : decode cX12_paths 62 = .ok (.ifCond .eq 133, 3) := by decide +kernel
theorem dX12_paths_65 : decode cX12_paths 65 = .ok (.iconst 0, 1) := by decide +kernel
theorem dX12_paths_66 : decode cX12_paths 66 = .ok (.istore 4, 2) := by decide +kernel
theorem dX12_paths_68 : decode cX12_paths 68 = .ok (.iconst 0, 1) := by decide +kernel
theorem dX12_paths_69 : decode cX12_paths 69 = .ok (.istore 6, 2) := by decide +kernel
theorem dX12_paths_71 : decode cX12_paths 71 = .ok (.iload 6, 2) := by decide +kernel
theorem dX12_paths_73 : decode cX12_paths 73 = .ok (.bipush 36, 2) := by decide +kernel
theorem dX12_paths_75 : decode cX12_paths 75 = .ok (.if_icmp .ge 114, 3) := by decide +kernel
theorem dX12_paths_78 : decode cX12_paths 78 = .ok (.iconst 0, 1) := by decide +kernel
theorem dX12_paths_79 : decode cX12_paths 79 = .ok (.istore 7, 2) := by decide +kernel
theorem dX12_paths_81 : decode cX12_paths 81 = .ok (.iload 7, 2) := by decide +kernel
theorem dX12_paths_83 : decode cX12_paths 83 = .ok (.iconst 4, 1) := by decide +kernel
theorem dX12_paths_84 : decode cX12_paths 84 = .ok (.if_icmp .ge 99, 3) := by decide +kernel
theorem dX12_paths_87 : decode cX12_paths 87 = .ok (.aload_n 0, 1) := by decide +kernel
theorem dX12_paths_88 : decode cX12_paths 88 = .ok (.getfield 77, 3) := by decide +kernel
theorem dX12_paths_91 : decode cX12_paths 91 = .ok (.iload 6, 2) := by decide +kernel
theorem dX12_paths_93 : decode cX12_paths 93 = .ok (.iaload, 1) := by decide +kernel
theorem dX12_paths_94 : decode cX12_paths 94 = .ok (.iload 5, 2) := by decide +kernel
theorem dX12_paths_96 : decode cX12_paths 96 = .ok (.if_icmp .ne 87, 3) := by decide +kernel
theorem dX12_paths_99 : decode cX12_paths 99 = .ok (.aload_n 0, 1) := by decide +kernel
theorem dX12_paths_100 : decode cX12_paths 100 = .ok (.iload 6, 2) := by decide +kernel
theorem dX12_paths_102 : decode cX12_paths 102 = .ok (.iload 7, 2) := by decide +kernel
theorem dX12_paths_104 : decode cX12_paths 104 = .ok (.invokevirtual 249, 3) := by decide +kernel
theorem dX12_paths_107 : decode cX12_paths 107 = .ok (.istore 8, 2) := by decide +kernel
theorem dX12_paths_109 : decode cX12_paths 109 = .ok (.iload 8, 2) := by decide +kernel
theorem dX12_paths_111 : decode cX12_paths 111 = .ok (.iconst (-1), 1) := by decide +kernel
theorem dX12_paths_112 : decode cX12_paths 112 = .ok (.if_icmp .eq 65, 3) := by decide +kernel
theorem dX12_paths_115 : decode cX12_paths 115 = .ok (.aload_n 0, 1) := by decide +kernel
theorem dX12_paths_116 : decode cX12_paths 116 = .ok (.getfield 77, 3) := by decide +kernel
theorem dX12_paths_119 : decode cX12_paths 119 = .ok (.iload 8, 2) := by decide +kernel
theorem dX12_paths_121 : decode cX12_paths 121 = .ok (.ifCond .ge 7, 3) := by decide +kernel
theorem dX12_paths_124 : decode cX12_paths 124 = .ok (.iconst 0, 1) := by decide +kernel
theorem dX12_paths_125 : decode cX12_paths 125 = .ok (.goto 5, 3) := by decide +kernel
theorem dX12_paths_128 : decode cX12_paths 128 = .ok (.iload 8, 2) := by decide +kernel
theorem dX12_paths_130 : decode cX12_paths 130 = .ok (.iaload, 1) := by decide +kernel
theorem dX12_paths_131 : decode cX12_paths 131 = .ok (.sipush 1000, 3) := by decide +kernel
theorem dX12_paths_134 : decode cX12_paths 134 = .ok (.if_icmp .ne 43, 3) := by decide +kernel
theorem dX12_paths_137 : decode cX12_paths 137 = .ok (.iload 8, 2) := by decide +kernel
theorem dX12_paths_139 : decode cX12_paths 139 = .ok (.iload_n 1, 1) := by decide +kernel
theorem dX12_paths_140 : decode cX12_paths 140 = .ok (.if_icmp .eq 23, 3) := by decide +kernel
theorem dX12_paths_143 : decode cX12_paths 143 = .ok (.aload_n 0, 1) := by decide +kernel
theorem dX12_paths_144 : decode cX12_paths 144 = .ok (.getfield 74, 3) := by decide +kernel
theorem dX12_paths_147 : decode cX12_paths 147 = .ok (.iload 8, 2) := by decide +kernel
theorem dX12_paths_149 : decode cX12_paths 149 = .ok (.ifCond .ge 7, 3) := by decide +kernel
theorem dX12_paths_152 : decode cX12_paths 152 = .ok (.iconst 0, 1) := by decide +kernel
theorem dX12_paths_153 : decode cX12_paths 153 = .ok (.goto 5, 3) := by decide +kernel
theorem dX12_paths_156 : decode cX12_paths 156 = .ok (.iload 8, 2) := by decide +kernel
theorem dX12_paths_158 : decode cX12_paths 158 = .ok (.iaload, 1) := by decide +kernel
theorem dX12_paths_159 : decode cX12_paths 159 = .ok (.iload_n 3, 1) := by decide +kernel
theorem dX12_paths_160 : decode cX12_paths 160 = .ok (.if_icmp .gt 17, 3) := by decide +kernel
theorem dX12_paths_163 : decode cX12_paths 163 = .ok (.aload_n 0, 1) := by decide +kernel
theorem dX12_paths_164 : decode cX12_paths 164 = .ok (.getfield 77, 3) := by decide +kernel
theorem dX12_paths_167 : decode cX12_paths 167 = .ok (.iload 8, 2) := by decide +kernel
theorem dX12_paths_169 : decode cX12_paths 169 = .ok (.iload 5, 2) := by decide +kernel
theorem dX12_paths_171 : decode cX12_paths 171 = .ok (.iconst 1, 1) := by decide +kernel
theorem dX12_paths_172 : decode cX12_paths 172 = .ok (.iadd, 1) := by decide +kernel
theorem dX12_paths_173 : decode cX12_paths 173 = .ok (.iastore, 1) := by decide +kernel
theorem dX12_paths_174 : decode cX12_paths 174 = .ok (.iconst 1, 1) := by decide +kernel
theorem dX12_paths_175 : decode cX12_paths 175 = .ok (.istore 4, 2) := by decide +kernel
theorem dX12_paths_177 : decode cX12_paths 177 = .ok (.iinc 7 1, 3) := by decide +kernel
theorem dX12_paths_180 : decode cX12_paths 180 = .ok (.goto (-99), 3) := by decide +kernel
theorem dX12_paths_183 : decode cX12_paths 183 = .ok (.iinc 6 1, 3) := by decide +kernel
theorem dX12_paths_186 : decode cX12_paths 186 = .ok (.goto (-115), 3) := by decide +kernel
theorem dX12_paths_189 : decode cX12_paths 189 = .ok (.iinc 5 1, 3) := by decide +kernel
theorem dX12_paths_192 : decode cX12_paths 192 = .ok (.goto (-132), 3) := by decide +kernel
theorem dX12_paths_195 : decode cX12_paths 195 = .ok (.return_, 1) := by decide +kernel
theorem dX12_way_0 : decode cX12_way 0 = .ok (.iload_n 1, 1) := by decide +kernel
theorem dX12_way_1 : decode cX12_way 1 = .ok (.invokestatic 110, 3) := by decide +kernel
theorem dX12_way_4 : decode cX12_way 4 = .ok (.ifCond .eq 38, 3) := by decide +kernel
theorem dX12_way_7 : decode cX12_way 7 = .ok (.iload_n 2, 1) := by decide +kernel
theorem dX12_way_8 : decode cX12_way 8 = .ok (.invokestatic 110, 3) := by decide +kernel
theorem dX12_way_11 : decode cX12_way 11 = .ok (.ifCond .eq 31, 3) := by decide +kernel
theorem dX12_way_14 : decode cX12_way 14 = .ok (.aload_n 0, 1) := by decide +kernel
theorem dX12_way_15 : decode cX12_way 15 = .ok (.iload_n 1, 1) := by decide +kernel
theorem dX12_way_16 : decode cX12_way 16 = .ok (.invokevirtual 121, 3) := by decide +kernel
theorem dX12_way_19 : decode cX12_way 19 = .ok (.ifCond .ne 23, 3) := by decide +kernel
theorem dX12_way_22 : decode cX12_way 22 = .ok (.aload_n 0, 1) := by decide +kernel
theorem dX12_way_23 : decode cX12_way 23 = .ok (.iload_n 2, 1) := by decide +kernel
theorem dX12_way_24 : decode cX12_way 24 = .ok (.invokevirtual 121, 3) := by decide +kernel
theorem dX12_way_27 : decode cX12_way 27 = .ok (.ifCond .ne 15, 3) := by decide +kernel
theorem dX12_way_30 : decode cX12_way 30 = .ok (.iload_n 3, 1) := by decide +kernel
theorem dX12_way_31 : decode cX12_way 31 = .ok (.i2l, 1) := by decide +kernel
theorem dX12_way_32 : decode cX12_way 32 = .ok (.lconst 0, 1) := by decide +kernel
theorem dX12_way_33 : decode cX12_way 33 = .ok (.ldc2_w 308, 3) := by decide +kernel
theorem dX12_way_36 : decode cX12_way 36 = .ok (.invokestatic 106, 3) := by decide +kernel
theorem dX12_way_39 : decode cX12_way 39 = .ok (.ifCond .ne 8, 3) := by decide +kernel
theorem dX12_way_42 : decode cX12_way 42 = .ok (.aload_n 0, 1) := by decide +kernel
theorem dX12_way_43 : decode cX12_way 43 = .ok (.invokevirtual 117, 3) := by decide +kernel
theorem dX12_way_46 : decode cX12_way 46 = .ok (.ireturn, 1) := by decide +kernel
theorem dX12_way_47 : decode cX12_way 47 = .ok (.aload_n 0, 1) := by decide +kernel
theorem dX12_way_48 : decode cX12_way 48 = .ok (.invokevirtual 255, 3) := by decide +kernel
theorem dX12_way_51 : decode cX12_way 51 = .ok (.aload_n 0, 1) := by decide +kernel
theorem dX12_way_52 : decode cX12_way 52 = .ok (.getfield 35, 3) := by decide +kernel
theorem dX12_way_55 : decode cX12_way 55 = .ok (.bipush 36, 2) := by decide +kernel
theorem dX12_way_57 : decode cX12_way 57 = .ok (.iload_n 1, 1) := by decide +kernel
theorem dX12_way_58 : decode cX12_way 58 = .ok (.imul, 1) := by decide +kernel
theorem dX12_way_59 : decode cX12_way 59 = .ok (.iload_n 2, 1) := by decide +kernel
theorem dX12_way_60 : decode cX12_way 60 = .ok (.iadd, 1) := by decide +kernel
theorem dX12_way_61 : decode cX12_way 61 = .ok (.iaload, 1) := by decide +kernel
theorem dX12_way_62 : decode cX12_way 62 = .ok (.sipush 1000, 3) := by decide +kernel
theorem dX12_way_65 : decode cX12_way 65 = .ok (.if_icmp .ne 8, 3) := by decide +kernel
theorem dX12_way_68 : decode cX12_way 68 = .ok (.aload_n 0, 1) := by decide +kernel
theorem dX12_way_69 : decode cX12_way 69 = .ok (.invokevirtual 124, 3) := by decide +kernel
theorem dX12_way_72 : decode cX12_way 72 = .ok (.ireturn, 1) := by decide +kernel
theorem dX12_way_73 : decode cX12_way 73 = .ok (.iconst 0, 1) := by decide +kernel
theorem dX12_way_74 : decode cX12_way 74 = .ok (.istore 4, 2) := by decide +kernel
theorem dX12_way_76 : decode cX12_way 76 = .ok (.iload 4, 2) := by decide +kernel
theorem dX12_way_78 : decode cX12_way 78 = .ok (.bipush 36, 2) := by decide +kernel
theorem dX12_way_80 : decode cX12_way 80 = .ok (.if_icmp .ge 104, 3) := by decide +kernel
theorem dX12_way_83 : decode cX12_way 83 = .ok (.aload_n 0, 1) := by decide +kernel
theorem dX12_way_84 : decode cX12_way 84 = .ok (.getfield 74, 3) := by decide +kernel
theorem dX12_way_87 : decode cX12_way 87 = .ok (.iload 4, 2) := by decide +kernel
theorem dX12_way_89 : decode cX12_way 89 = .ok (.iconst 0, 1) := by decide +kernel
theorem dX12_way_90 : decode cX12_way 90 = .ok (.iastore, 1) := by decide +kernel
theorem dX12_way_91 : decode cX12_way 91 = .ok (.iconst 0, 1) := by decide +kernel
theorem dX12_way_92 : decode cX12_way 92 = .ok (.istore 5, 2) := by decide +kernel
theorem dX12_way_94 : decode cX12_way 94 = .ok (.iload 5, 2) := by decide +kernel
theorem dX12_way_96 : decode cX12_way 96 = .ok (.aload_n 0, 1) := by decide +kernel
theorem dX12_way_97 : decode cX12_way 97 = .ok (.getfield 7, 3) := by decide +kernel
theorem dX12_way_100 : decode cX12_way 100 = .ok (.iconst 2, 1) := by decide +kernel
theorem dX12_way_101 : decode cX12_way 101 = .ok (.iaload, 1) := by decide +kernel
theorem dX12_way_102 : decode cX12_way 102 = .ok (.if_icmp .ge 76, 3) := by decide +kernel
theorem dX12_way_105 : decode cX12_way 105 = .ok (.aload_n 0, 1) := by decide +kernel
theorem dX12_way_106 : decode cX12_way 106 = .ok (.iload 5, 2) := by decide +kernel
theorem dX12_way_108 : decode cX12_way 108 = .ok (.iconst 5, 1) := by decide +kernel
theorem dX12_way_109 : decode cX12_way 109 = .ok (.invokevirtual 147, 3) := by decide +kernel
theorem dX12_way_112 : decode cX12_way 112 = .ok (.iconst (-1), 1) := by decide +kernel
theorem dX12_way_113 : decode cX12_way 113 = .ok (.if_icmp .eq 59, 3) := by decide +kernel
theorem dX12_way_116 : decode cX12_way 116 = .ok (.aload_n 0, 1) := by decide +kernel
theorem dX12_way_117 : decode cX12_way 117 = .ok (.iload 4, 2) := by decide +kernel
theorem dX12_way_119 : decode cX12_way 119 = .ok (.aload_n 0, 1) := by decide +kernel
theorem dX12_way_120 : decode cX12_way 120 = .ok (.getfield 7, 3) := by decide +kernel
theorem dX12_way_123 : decode cX12_way 123 = .ok (.bipush 46, 2) := by decide +kernel
theorem dX12_way_125 : decode cX12_way 125 = .ok (.iload 4, 2) := by decide +kernel
theorem dX12_way_127 : decode cX12_way 127 = .ok (.iadd, 1) := by decide +kernel
theorem dX12_way_128 : decode cX12_way 128 = .ok (.iaload, 1) := by decide +kernel
theorem dX12_way_129 : decode cX12_way 129 = .ok (.aload_n 0, 1) := by decide +kernel
theorem dX12_way_130 : decode cX12_way 130 = .ok (.iload 5, 2) := by decide +kernel
theorem dX12_way_132 : decode cX12_way 132 = .ok (.invokevirtual 272, 3) := by decide +kernel
theorem dX12_way_135 : decode cX12_way 135 = .ok (.iconst 0, 1) := by decide +kernel
theorem dX12_way_136 : decode cX12_way 136 = .ok (.invokevirtual 261, 3) := by decide +kernel
theorem dX12_way_139 : decode cX12_way 139 = .ok (.istore 6, 2) := by decide +kernel
theorem dX12_way_141 : decode cX12_way 141 = .ok (.aload_n 0, 1) := by decide +kernel
theorem dX12_way_142 : decode cX12_way 142 = .ok (.getfield 74, 3) := by decide +kernel
theorem dX12_way_145 : decode cX12_way 145 = .ok (.iload 4, 2) := by decide +kernel
theorem dX12_way_147 : decode cX12_way 147 = .ok (.iload 6, 2) := by decide +kernel
theorem dX12_way_149 : decode cX12_way 149 = .ok (.aload_n 0, 1) := by decide +kernel
theorem dX12_way_150 : decode cX12_way 150 = .ok (.getfield 74, 3) := by decide +kernel
theorem dX12_way_153 : decode cX12_way 153 = .ok (.iload 4, 2) := by decide +kernel
theorem dX12_way_155 : decode cX12_way 155 = .ok (.iaload, 1) := by decide +kernel
theorem dX12_way_156 : decode cX12_way 156 = .ok (.if_icmp .le 8, 3) := by decide +kernel
theorem dX12_way_159 : decode cX12_way 159 = .ok (.iload 6, 2) := by decide +kernel
theorem dX12_way_161 : decode cX12_way 161 = .ok (.goto 10, 3) := by decide +kernel
theorem dX12_way_164 : decode cX12_way 164 = .ok (.aload_n 0, 1) := by decide +kernel
theorem dX12_way_165 : decode cX12_way 165 = .ok (.getfield 74, 3) := by decide +kernel
theorem dX12_way_168 : decode cX12_way 168 = .ok (.iload 4, 2) := by decide +kernel
theorem dX12_way_170 : decode cX12_way 170 = .ok (.iaload, 1) := by decide +kernel
theorem dX12_way_171 : decode cX12_way 171 = .ok (.iastore, 1) := by decide +kernel
theorem dX12_way_172 : decode cX12_way 172 = .ok (.iinc 5 1, 3) := by decide +kernel
theorem dX12_way_175 : decode cX12_way 175 = .ok (.goto (-81), 3) := by decide +kernel
theorem dX12_way_178 : decode cX12_way 178 = .ok (.iinc 4 1, 3) := by decide +kernel
theorem dX12_way_181 : decode cX12_way 181 = .ok (.goto (-105), 3) := by decide +kernel
theorem dX12_way_184 : decode cX12_way 184 = .ok (.iconst 0, 1) := by decide +kernel
theorem dX12_way_185 : decode cX12_way 185 = .ok (.istore 4, 2) := by decide +kernel
theorem dX12_way_187 : decode cX12_way 187 = .ok (.aload_n 0, 1) := by decide +kernel
theorem dX12_way_188 : decode cX12_way 188 = .ok (.iload_n 1, 1) := by decide +kernel
theorem dX12_way_189 : decode cX12_way 189 = .ok (.iload_n 2, 1) := by decide +kernel
theorem dX12_way_190 : decode cX12_way 190 = .ok (.iload 4, 2) := by decide +kernel
theorem dX12_way_192 : decode cX12_way 192 = .ok (.invokevirtual 310, 3) := by decide +kernel
theorem dX12_way_195 : decode cX12_way 195 = .ok (.aload_n 0, 1) := by decide +kernel
theorem dX12_way_196 : decode cX12_way 196 = .ok (.getfield 77, 3) := by decide +kernel
theorem dX12_way_199 : decode cX12_way 199 = .ok (.iload_n 1, 1) := by decide +kernel
theorem dX12_way_200 : decode cX12_way 200 = .ok (.iaload, 1) := by decide +kernel
theorem dX12_way_201 : decode cX12_way 201 = .ok (.sipush 1000, 3) := by decide +kernel
theorem dX12_way_204 : decode cX12_way 204 = .ok (.if_icmp .ne 17, 3) := by decide +kernel
theorem dX12_way_207 : decode cX12_way 207 = .ok (.iinc 4 1, 3) := by decide +kernel
theorem dX12_way_210 : decode cX12_way 210 = .ok (.aload_n 0, 1) := by decide +kernel
theorem dX12_way_211 : decode cX12_way 211 = .ok (.iload_n 1, 1) := by decide +kernel
theorem dX12_way_212 : decode cX12_way 212 = .ok (.iload_n 2, 1) := by decide +kernel
theorem dX12_way_213 : decode cX12_way 213 = .ok (.iload 4, 2) := by decide +kernel
theorem dX12_way_215 : decode cX12_way 215 = .ok (.invokevirtual 310, 3) := by decide +kernel
theorem dX12_way_218 : decode cX12_way 218 = .ok (.goto (-23), 3) := by decide +kernel
theorem dX12_way_221 : decode cX12_way 221 = .ok (.iload_n 3, 1) := by decide +kernel
theorem dX12_way_222 : decode cX12_way 222 = .ok (.iconst 2, 1) := by decide +kernel
theorem dX12_way_223 : decode cX12_way 223 = .ok (.if_icmp .ge 19, 3) := by decide +kernel
theorem dX12_way_226 : decode cX12_way 226 = .ok (.iload_n 3, 1) := by decide +kernel
theorem dX12_way_227 : decode cX12_way 227 = .ok (.ifCond .ne 8, 3) := by decide +kernel
theorem dX12_way_230 : decode cX12_way 230 = .ok (.iload 4, 2) := by decide +kernel
theorem dX12_way_232 : decode cX12_way 232 = .ok (.goto 9, 3) := by decide +kernel
theorem dX12_way_235 : decode cX12_way 235 = .ok (.aload_n 0, 1) := by decide +kernel
theorem dX12_way_236 : decode cX12_way 236 = .ok (.getfield 77, 3) := by decide +kernel
theorem dX12_way_239 : decode cX12_way 239 = .ok (.iload_n 1, 1) := by decide +kernel
theorem dX12_way_240 : decode cX12_way 240 = .ok (.iaload, 1) := by decide +kernel
theorem dX12_way_241 : decode cX12_way 241 = .ok (.ireturn, 1) := by decide +kernel
theorem dX12_way_242 : decode cX12_way 242 = .ok (.iconst (-1), 1) := by decide +kernel
theorem dX12_way_243 : decode cX12_way 243 = .ok (.istore 5, 2) := by decide +kernel
theorem dX12_way_245 : decode cX12_way 245 = .ok (.iconst 3, 1) := by decide +kernel
theorem dX12_way_246 : decode cX12_way 246 = .ok (.istore 6, 2) := by decide +kernel
theorem dX12_way_248 : decode cX12_way 248 = .ok (.iload 6, 2) := by decide +kernel
theorem dX12_way_250 : decode cX12_way 250 = .ok (.ifCond .lt 60, 3) := by decide +kernel
theorem dX12_way_253 : decode cX12_way 253 = .ok (.aload_n 0, 1) := by decide +kernel
theorem dX12_way_254 : decode cX12_way 254 = .ok (.iload_n 1, 1) := by decide +kernel
theorem dX12_way_255 : decode cX12_way 255 = .ok (.iload 6, 2) := by decide +kernel
theorem dX12_way_257 : decode cX12_way 257 = .ok (.invokevirtual 249, 3) := by decide +kernel
theorem dX12_way_260 : decode cX12_way 260 = .ok (.istore 7, 2) := by decide +kernel
theorem dX12_way_262 : decode cX12_way 262 = .ok (.iload 7, 2) := by decide +kernel
theorem dX12_way_264 : decode cX12_way 264 = .ok (.iconst (-1), 1) := by decide +kernel
theorem dX12_way_265 : decode cX12_way 265 = .ok (.if_icmp .eq 35, 3) := by decide +kernel
theorem dX12_way_268 : decode cX12_way 268 = .ok (.aload_n 0, 1) := by decide +kernel
theorem dX12_way_269 : decode cX12_way 269 = .ok (.getfield 77, 3) := by decide +kernel
theorem dX12_way_272 : decode cX12_way 272 = .ok (.iload 7, 2) := by decide +kernel
theorem dX12_way_274 : decode cX12_way 274 = .ok (.ifCond .ge 7, 3) := by decide +kernel
theorem dX12_way_277 : decode cX12_way 277 = .ok (.iconst 0, 1) := by decide +kernel
theorem dX12_way_278 : decode cX12_way 278 = .ok (.goto 5, 3) := by decide +kernel
theorem dX12_way_281 : decode cX12_way 281 = .ok (.iload 7, 2) := by decide +kernel
theorem dX12_way_283 : decode cX12_way 283 = .ok (.iaload, 1) := by decide +kernel
theorem dX12_way_284 : decode cX12_way 284 = .ok (.aload_n 0, 1) := by decide +kernel
theorem dX12_way_285 : decode cX12_way 285 = .ok (.getfield 77, 3) := by decide +kernel
theorem dX12_way_288 : decode cX12_way 288 = .ok (.iload_n 1, 1) := by decide +kernel
theorem dX12_way_289 : decode cX12_way 289 = .ok (.iaload, 1) := by decide +kernel
theorem dX12_way_290 : decode cX12_way 290 = .ok (.iconst 1, 1) := by decide +kernel
theorem dX12_way_291 : decode cX12_way 291 = .ok (.isub, 1) := by decide +kernel
theorem dX12_way_292 : decode cX12_way 292 = .ok (.if_icmp .ne 8, 3) := by decide +kernel
theorem dX12_way_295 : decode cX12_way 295 = .ok (.iload 7, 2) := by decide +kernel
theorem dX12_way_297 : decode cX12_way 297 = .ok (.goto 5, 3) := by decide +kernel
theorem dX12_way_300 : decode cX12_way 300 = .ok (.iload 5, 2) := by decide +kernel
theorem dX12_way_302 : decode cX12_way 302 = .ok (.istore 5, 2) := by decide +kernel
theorem dX12_way_304 : decode cX12_way 304 = .ok (.iinc 6 (-1), 3) := by decide +kernel
theorem dX12_way_307 : decode cX12_way 307 = .ok (.goto (-59), 3) := by decide +kernel
theorem dX12_way_310 : decode cX12_way 310 = .ok (.iload_n 1, 1) := by decide +kernel
theorem dX12_way_311 : decode cX12_way 311 = .ok (.iload_n 2, 1) := by decide +kernel
theorem dX12_way_312 : decode cX12_way 312 = .ok (.if_icmp .ne 7, 3) := by decide +kernel
theorem dX12_way_315 : decode cX12_way 315 = .ok (.iconst (-1), 1) := by decide +kernel
theorem dX12_way_316 : decode cX12_way 316 = .ok (.goto 5, 3) := by decide +kernel
theorem dX12_way_319 : decode cX12_way 319 = .ok (.iload 5, 2) := by decide +kernel
theorem dX12_way_321 : decode cX12_way 321 = .ok (.ireturn, 1) := by decide +kernel
theorem dX12_rule_0 : decode cX12_rule 0 = .ok (.aload_n 0, 1) := by decide +kernel
theorem dX12_rule_1 : decode cX12_rule 1 = .ok (.iload_n 1, 1) := by decide +kernel
theorem dX12_rule_2 : decode cX12_rule 2 = .ok (.invokevirtual 141, 3) := by decide +kernel
theorem dX12_rule_5 : decode cX12_rule 5 = .ok (.ifCond .eq 11, 3) := by decide +kernel
theorem dX12_rule_8 : decode cX12_rule 8 = .ok (.aload_n 0, 1) := by decide +kernel
theorem dX12_rule_9 : decode cX12_rule 9 = .ok (.iload_n 2, 1) := by decide +kernel
theorem dX12_rule_10 : decode cX12_rule 10 = .ok (.invokevirtual 144, 3) := by decide +kernel
theorem dX12_rule_13 : decode cX12_rule 13 = .ok (.ifCond .ne 8, 3) := by decide +kernel
theorem dX12_rule_16 : decode cX12_rule 16 = .ok (.aload_n 0, 1) := by decide +kernel
theorem dX12_rule_17 : decode cX12_rule 17 = .ok (.invokevirtual 117, 3) := by decide +kernel
theorem dX12_rule_20 : decode cX12_rule 20 = .ok (.ireturn, 1) := by decide +kernel
theorem dX12_rule_21 : decode cX12_rule 21 = .ok (.aload_n 0, 1) := by decide +kernel
theorem dX12_rule_22 : decode cX12_rule 22 = .ok (.getfield 7, 3) := by decide +kernel
theorem dX12_rule_25 : decode cX12_rule 25 = .ok (.iconst 4, 1) := by decide +kernel
theorem dX12_rule_26 : decode cX12_rule 26 = .ok (.iaload, 1) := by decide +kernel
theorem dX12_rule_27 : decode cX12_rule 27 = .ok (.iconst 4, 1) := by decide +kernel
theorem dX12_rule_28 : decode cX12_rule 28 = .ok (.if_icmp .ne 8, 3) := by decide +kernel
theorem dX12_rule_31 : decode cX12_rule 31 = .ok (.aload_n 0, 1) := by decide +kernel
theorem dX12_rule_32 : decode cX12_rule 32 = .ok (.invokevirtual 134, 3) := by decide +kernel
theorem dX12_rule_35 : decode cX12_rule 35 = .ok (.ireturn, 1) := by decide +kernel
theorem dX12_rule_36 : decode cX12_rule 36 = .ok (.sipush 160, 3) := by decide +kernel
theorem dX12_rule_39 : decode cX12_rule 39 = .ok (.iconst 3, 1) := by decide +kernel
theorem dX12_rule_40 : decode cX12_rule 40 = .ok (.aload_n 0, 1) := by decide +kernel
theorem dX12_rule_41 : decode cX12_rule 41 = .ok (.getfield 7, 3) := by decide +kernel
theorem dX12_rule_44 : decode cX12_rule 44 = .ok (.iconst 4, 1) := by decide +kernel
theorem dX12_rule_45 : decode cX12_rule 45 = .ok (.iaload, 1) := by decide +kernel
theorem dX12_rule_46 : decode cX12_rule 46 = .ok (.imul, 1) := by decide +kernel
theorem dX12_rule_47 : decode cX12_rule 47 = .ok (.iadd, 1) := by decide +kernel
theorem dX12_rule_48 : decode cX12_rule 48 = .ok (.istore 4, 2) := by decide +kernel
theorem dX12_rule_50 : decode cX12_rule 50 = .ok (.aload_n 0, 1) := by decide +kernel
theorem dX12_rule_51 : decode cX12_rule 51 = .ok (.getfield 7, 3) := by decide +kernel
theorem dX12_rule_54 : decode cX12_rule 54 = .ok (.iload 4, 2) := by decide +kernel
theorem dX12_rule_56 : decode cX12_rule 56 = .ok (.iload_n 1, 1) := by decide +kernel
theorem dX12_rule_57 : decode cX12_rule 57 = .ok (.iastore, 1) := by decide +kernel
theorem dX12_rule_58 : decode cX12_rule 58 = .ok (.aload_n 0, 1) := by decide +kernel
theorem dX12_rule_59 : decode cX12_rule 59 = .ok (.getfield 7, 3) := by decide +kernel
theorem dX12_rule_62 : decode cX12_rule 62 = .ok (.iload 4, 2) := by decide +kernel
theorem dX12_rule_64 : decode cX12_rule 64 = .ok (.iconst 1, 1) := by decide +kernel
theorem dX12_rule_65 : decode cX12_rule 65 = .ok (.iadd, 1) := by decide +kernel
theorem dX12_rule_66 : decode cX12_rule 66 = .ok (.iload_n 2, 1) := by decide +kernel
theorem dX12_rule_67 : decode cX12_rule 67 = .ok (.iastore, 1) := by decide +kernel
theorem dX12_rule_68 : decode cX12_rule 68 = .ok (.aload_n 0, 1) := by decide +kernel
theorem dX12_rule_69 : decode cX12_rule 69 = .ok (.getfield 7, 3) := by decide +kernel
theorem dX12_rule_72 : decode cX12_rule 72 = .ok (.iload 4, 2) := by decide +kernel
theorem dX12_rule_74 : decode cX12_rule 74 = .ok (.iconst 2, 1) := by decide +kernel
theorem dX12_rule_75 : decode cX12_rule 75 = .ok (.iadd, 1) := by decide +kernel
theorem dX12_rule_76 : decode cX12_rule 76 = .ok (.iload_n 3, 1) := by decide +kernel
theorem dX12_rule_77 : decode cX12_rule 77 = .ok (.ifCond .eq 7, 3) := by decide +kernel
theorem dX12_rule_80 : decode cX12_rule 80 = .ok (.iconst 1, 1) := by decide +kernel
theorem dX12_rule_81 : decode cX12_rule 81 = .ok (.goto 4, 3) := by decide +kernel
theorem dX12_rule_84 : decode cX12_rule 84 = .ok (.iconst 0, 1) := by decide +kernel
theorem dX12_rule_85 : decode cX12_rule 85 = .ok (.iastore, 1) := by decide +kernel
theorem dX12_rule_86 : decode cX12_rule 86 = .ok (.aload_n 0, 1) := by decide +kernel
theorem dX12_rule_87 : decode cX12_rule 87 = .ok (.getfield 7, 3) := by decide +kernel
theorem dX12_rule_90 : decode cX12_rule 90 = .ok (.iconst 4, 1) := by decide +kernel
theorem dX12_rule_91 : decode cX12_rule 91 = .ok (.dup2, 1) := by decide +kernel
theorem dX12_rule_92 : decode cX12_rule 92 = .ok (.iaload, 1) := by decide +kernel
theorem dX12_rule_93 : decode cX12_rule 93 = .ok (.iconst 1, 1) := by decide +kernel
theorem dX12_rule_94 : decode cX12_rule 94 = .ok (.iadd, 1) := by decide +kernel
theorem dX12_rule_95 : decode cX12_rule 95 = .ok (.iastore, 1) := by decide +kernel
theorem dX12_rule_96 : decode cX12_rule 96 = .ok (.aload_n 0, 1) := by decide +kernel
theorem dX12_rule_97 : decode cX12_rule 97 = .ok (.getfield 7, 3) := by decide +kernel
theorem dX12_rule_100 : decode cX12_rule 100 = .ok (.iconst 4, 1) := by decide +kernel
theorem dX12_rule_101 : decode cX12_rule 101 = .ok (.iaload, 1) := by decide +kernel
theorem dX12_rule_102 : decode cX12_rule 102 = .ok (.iconst 1, 1) := by decide +kernel
theorem dX12_rule_103 : decode cX12_rule 103 = .ok (.isub, 1) := by decide +kernel
theorem dX12_rule_104 : decode cX12_rule 104 = .ok (.ireturn, 1) := by decide +kernel
theorem dX12_free_0 : decode cX12_free 0 = .ok (.aload_n 0, 1) := by decide +kernel
theorem dX12_free_1 : decode cX12_free 1 = .ok (.iconst 4, 1) := by decide +kernel
theorem dX12_free_2 : decode cX12_free 2 = .ok (.iconst 0, 1) := by decide +kernel
theorem dX12_free_3 : decode cX12_free 3 = .ok (.invokevirtual 129, 3) := by decide +kernel
theorem dX12_free_6 : decode cX12_free 6 = .ok (.ireturn, 1) := by decide +kernel
theorem dX12_digit_0 : decode cX12_digit 0 = .ok (.iload_n 0, 1) := by decide +kernel
theorem dX12_digit_1 : decode cX12_digit 1 = .ok (.istore_n 3, 1) := by decide +kernel
theorem dX12_digit_2 : decode cX12_digit 2 = .ok (.iconst 0, 1) := by decide +kernel
theorem dX12_digit_3 : decode cX12_digit 3 = .ok (.istore 4, 2) := by decide +kernel
theorem dX12_digit_5 : decode cX12_digit 5 = .ok (.iload 4, 2) := by decide +kernel
theorem dX12_digit_7 : decode cX12_digit 7 = .ok (.iload_n 2, 1) := by decide +kernel
theorem dX12_digit_8 : decode cX12_digit 8 = .ok (.if_icmp .ge 13, 3) := by decide +kernel
theorem dX12_digit_11 : decode cX12_digit 11 = .ok (.iload_n 3, 1) := by decide +kernel
theorem dX12_digit_12 : decode cX12_digit 12 = .ok (.iload_n 1, 1) := by decide +kernel
theorem dX12_digit_13 : decode cX12_digit 13 = .ok (.idiv, 1) := by decide +kernel
theorem dX12_digit_14 : decode cX12_digit 14 = .ok (.istore_n 3, 1) := by decide +kernel
theorem dX12_digit_15 : decode cX12_digit 15 = .ok (.iinc 4 1, 3) := by decide +kernel
theorem dX12_digit_18 : decode cX12_digit 18 = .ok (.goto (-13), 3) := by decide +kernel
theorem dX12_digit_21 : decode cX12_digit 21 = .ok (.iload_n 3, 1) := by decide +kernel
theorem dX12_digit_22 : decode cX12_digit 22 = .ok (.iload_n 1, 1) := by decide +kernel
theorem dX12_digit_23 : decode cX12_digit 23 = .ok (.irem, 1) := by decide +kernel
theorem dX12_digit_24 : decode cX12_digit 24 = .ok (.ireturn, 1) := by decide +kernel
theorem dX12_opens_0 : decode cX12_opens 0 = .ok (.iconst 1, 1) := by decide +kernel
theorem dX12_opens_1 : decode cX12_opens 1 = .ok (.istore 4, 2) := by decide +kernel
theorem dX12_opens_3 : decode cX12_opens 3 = .ok (.iconst 0, 1) := by decide +kernel
theorem dX12_opens_4 : decode cX12_opens 4 = .ok (.istore 5, 2) := by decide +kernel
theorem dX12_opens_6 : decode cX12_opens 6 = .ok (.iload 5, 2) := by decide +kernel
theorem dX12_opens_8 : decode cX12_opens 8 = .ok (.iload_n 3, 1) := by decide +kernel
theorem dX12_opens_9 : decode cX12_opens 9 = .ok (.if_icmp .ge 72, 3) := by decide +kernel
theorem dX12_opens_12 : decode cX12_opens 12 = .ok (.aload_n 0, 1) := by decide +kernel
theorem dX12_opens_13 : decode cX12_opens 13 = .ok (.getfield 80, 3) := by decide +kernel
theorem dX12_opens_16 : decode cX12_opens 16 = .ok (.iload 5, 2) := by decide +kernel
theorem dX12_opens_18 : decode cX12_opens 18 = .ok (.iload_n 1, 1) := by decide +kernel
theorem dX12_opens_19 : decode cX12_opens 19 = .ok (.iload_n 2, 1) := by decide +kernel
theorem dX12_opens_20 : decode cX12_opens 20 = .ok (.iload_n 3, 1) := by decide +kernel
theorem dX12_opens_21 : decode cX12_opens 21 = .ok (.iconst 1, 1) := by decide +kernel
theorem dX12_opens_22 : decode cX12_opens 22 = .ok (.isub, 1) := by decide +kernel
theorem dX12_opens_23 : decode cX12_opens 23 = .ok (.iload 5, 2) := by decide +kernel
theorem dX12_opens_25 : decode cX12_opens 25 = .ok (.isub, 1) := by decide +kernel
theorem dX12_opens_26 : decode cX12_opens 26 = .ok (.invokestatic 313, 3) := by decide +kernel
theorem dX12_opens_29 : decode cX12_opens 29 = .ok (.iastore, 1) := by decide +kernel
theorem dX12_opens_30 : decode cX12_opens 30 = .ok (.iconst 0, 1) := by decide +kernel
theorem dX12_opens_31 : decode cX12_opens 31 = .ok (.istore 6, 2) := by decide +kernel
theorem dX12_opens_33 : decode cX12_opens 33 = .ok (.iload 6, 2) := by decide +kernel
theorem dX12_opens_35 : decode cX12_opens 35 = .ok (.iload 5, 2) := by decide +kernel
theorem dX12_opens_37 : decode cX12_opens 37 = .ok (.if_icmp .ge 38, 3) := by decide +kernel
theorem dX12_opens_40 : decode cX12_opens 40 = .ok (.iload 4, 2) := by decide +kernel
theorem dX12_opens_42 : decode cX12_opens 42 = .ok (.ifCond .eq 24, 3) := by decide +kernel
theorem dX12_opens_45 : decode cX12_opens 45 = .ok (.aload_n 0, 1) := by decide +kernel
theorem dX12_opens_46 : decode cX12_opens 46 = .ok (.getfield 80, 3) := by decide +kernel
theorem dX12_opens_49 : decode cX12_opens 49 = .ok (.iload 6, 2) := by decide +kernel
theorem dX12_opens_51 : decode cX12_opens 51 = .ok (.iaload, 1) := by decide +kernel
theorem dX12_opens_52 : decode cX12_opens 52 = .ok (.aload_n 0, 1) := by decide +kernel
theorem dX12_opens_53 : decode cX12_opens 53 = .ok (.getfield 80, 3) := by decide +kernel
theorem dX12_opens_56 : decode cX12_opens 56 = .ok (.iload 5, 2) := by decide +kernel
theorem dX12_opens_58 : decode cX12_opens 58 = .ok (.iaload, 1) := by decide +kernel
theorem dX12_opens_59 : decode cX12_opens 59 = .ok (.if_icmp .eq 7, 3) := by decide +kernel
theorem dX12_opens_62 : decode cX12_opens 62 = .ok (.iconst 1, 1) := by decide +kernel
theorem dX12_opens_63 : decode cX12_opens 63 = .ok (.goto 4, 3) := by decide +kernel
theorem dX12_opens_66 : decode cX12_opens 66 = .ok (.iconst 0, 1) := by decide +kernel
theorem dX12_opens_67 : decode cX12_opens 67 = .ok (.istore 4, 2) := by decide +kernel
theorem dX12_opens_69 : decode cX12_opens 69 = .ok (.iinc 6 1, 3) := by decide +kernel
theorem dX12_opens_72 : decode cX12_opens 72 = .ok (.goto (-39), 3) := by decide +kernel
theorem dX12_opens_75 : decode cX12_opens 75 = .ok (.iinc 5 1, 3) := by decide +kernel
theorem dX12_opens_78 : decode cX12_opens 78 = .ok (.goto (-72), 3) := by decide +kernel
theorem dX12_opens_81 : decode cX12_opens 81 = .ok (.iload 4, 2) := by decide +kernel
theorem dX12_opens_83 : decode cX12_opens 83 = .ok (.ireturn, 1) := by decide +kernel
theorem dX12_keepsBetter_0 : decode cX12_keepsBetter 0 = .ok (.aload_n 0, 1) := by decide +kernel
theorem dX12_keepsBetter_1 : decode cX12_keepsBetter 1 = .ok (.invokevirtual 302, 3) := by decide +kernel
theorem dX12_keepsBetter_4 : decode cX12_keepsBetter 4 = .ok (.aload_n 0, 1) := by decide +kernel
theorem dX12_keepsBetter_5 : decode cX12_keepsBetter 5 = .ok (.getfield 317, 3) := by decide +kernel
theorem dX12_keepsBetter_8 : decode cX12_keepsBetter 8 = .ok (.ifCond .eq 36, 3) := by decide +kernel
theorem dX12_keepsBetter_11 : decode cX12_keepsBetter 11 = .ok (.aload_n 0, 1) := by decide +kernel
theorem dX12_keepsBetter_12 : decode cX12_keepsBetter 12 = .ok (.getfield 296, 3) := by decide +kernel
theorem dX12_keepsBetter_15 : decode cX12_keepsBetter 15 = .ok (.aload_n 0, 1) := by decide +kernel
theorem dX12_keepsBetter_16 : decode cX12_keepsBetter 16 = .ok (.getfield 320, 3) := by decide +kernel
theorem dX12_keepsBetter_19 : decode cX12_keepsBetter 19 = .ok (.if_icmp .gt 25, 3) := by decide +kernel
theorem dX12_keepsBetter_22 : decode cX12_keepsBetter 22 = .ok (.aload_n 0, 1) := by decide +kernel
theorem dX12_keepsBetter_23 : decode cX12_keepsBetter 23 = .ok (.getfield 296, 3) := by decide +kernel
theorem dX12_keepsBetter_26 : decode cX12_keepsBetter 26 = .ok (.aload_n 0, 1) := by decide +kernel
theorem dX12_keepsBetter_27 : decode cX12_keepsBetter 27 = .ok (.getfield 320, 3) := by decide +kernel
theorem dX12_keepsBetter_30 : decode cX12_keepsBetter 30 = .ok (.if_icmp .ne 65, 3) := by decide +kernel
theorem dX12_keepsBetter_33 : decode cX12_keepsBetter 33 = .ok (.aload_n 0, 1) := by decide +kernel
theorem dX12_keepsBetter_34 : decode cX12_keepsBetter 34 = .ok (.getfield 299, 3) := by decide +kernel
theorem dX12_keepsBetter_37 : decode cX12_keepsBetter 37 = .ok (.aload_n 0, 1) := by decide +kernel
theorem dX12_keepsBetter_38 : decode cX12_keepsBetter 38 = .ok (.getfield 323, 3) := by decide +kernel
theorem dX12_keepsBetter_41 : decode cX12_keepsBetter 41 = .ok (.if_icmp .le 54, 3) := by decide +kernel
theorem dX12_keepsBetter_44 : decode cX12_keepsBetter 44 = .ok (.aload_n 0, 1) := by decide +kernel
theorem dX12_keepsBetter_45 : decode cX12_keepsBetter 45 = .ok (.iconst 1, 1) := by decide +kernel
theorem dX12_keepsBetter_46 : decode cX12_keepsBetter 46 = .ok (.putfield 317, 3) := by decide +kernel
theorem dX12_keepsBetter_49 : decode cX12_keepsBetter 49 = .ok (.aload_n 0, 1) := by decide +kernel
theorem dX12_keepsBetter_50 : decode cX12_keepsBetter 50 = .ok (.aload_n 0, 1) := by decide +kernel
theorem dX12_keepsBetter_51 : decode cX12_keepsBetter 51 = .ok (.getfield 296, 3) := by decide +kernel
theorem dX12_keepsBetter_54 : decode cX12_keepsBetter 54 = .ok (.putfield 320, 3) := by decide +kernel
theorem dX12_keepsBetter_57 : decode cX12_keepsBetter 57 = .ok (.aload_n 0, 1) := by decide +kernel
theorem dX12_keepsBetter_58 : decode cX12_keepsBetter 58 = .ok (.aload_n 0, 1) := by decide +kernel
theorem dX12_keepsBetter_59 : decode cX12_keepsBetter 59 = .ok (.getfield 299, 3) := by decide +kernel
theorem dX12_keepsBetter_62 : decode cX12_keepsBetter 62 = .ok (.putfield 323, 3) := by decide +kernel
theorem dX12_keepsBetter_65 : decode cX12_keepsBetter 65 = .ok (.iconst 0, 1) := by decide +kernel
theorem dX12_keepsBetter_66 : decode cX12_keepsBetter 66 = .ok (.istore_n 1, 1) := by decide +kernel
theorem dX12_keepsBetter_67 : decode cX12_keepsBetter 67 = .ok (.iload_n 1, 1) := by decide +kernel
theorem dX12_keepsBetter_68 : decode cX12_keepsBetter 68 = .ok (.aload_n 0, 1) := by decide +kernel
theorem dX12_keepsBetter_69 : decode cX12_keepsBetter 69 = .ok (.getfield 7, 3) := by decide +kernel
theorem dX12_keepsBetter_72 : decode cX12_keepsBetter 72 = .ok (.iconst 2, 1) := by decide +kernel
theorem dX12_keepsBetter_73 : decode cX12_keepsBetter 73 = .ok (.iaload, 1) := by decide +kernel
theorem dX12_keepsBetter_74 : decode cX12_keepsBetter 74 = .ok (.if_icmp .ge 21, 3) := by decide +kernel
theorem dX12_keepsBetter_77 : decode cX12_keepsBetter 77 = .ok (.aload_n 0, 1) := by decide +kernel
theorem dX12_keepsBetter_78 : decode cX12_keepsBetter 78 = .ok (.getfield 83, 3) := by decide +kernel
theorem dX12_keepsBetter_81 : decode cX12_keepsBetter 81 = .ok (.iload_n 1, 1) := by decide +kernel
theorem dX12_keepsBetter_82 : decode cX12_keepsBetter 82 = .ok (.aload_n 0, 1) := by decide +kernel
theorem dX12_keepsBetter_83 : decode cX12_keepsBetter 83 = .ok (.getfield 80, 3) := by decide +kernel
theorem dX12_keepsBetter_86 : decode cX12_keepsBetter 86 = .ok (.iload_n 1, 1) := by decide +kernel
theorem dX12_keepsBetter_87 : decode cX12_keepsBetter 87 = .ok (.iaload, 1) := by decide +kernel
theorem dX12_keepsBetter_88 : decode cX12_keepsBetter 88 = .ok (.iastore, 1) := by decide +kernel
theorem dX12_keepsBetter_89 : decode cX12_keepsBetter 89 = .ok (.iinc 1 1, 3) := by decide +kernel
theorem dX12_keepsBetter_92 : decode cX12_keepsBetter 92 = .ok (.goto (-25), 3) := by decide +kernel
theorem dX12_keepsBetter_95 : decode cX12_keepsBetter 95 = .ok (.return_, 1) := by decide +kernel
theorem dX12_isRuled_0 : decode cX12_isRuled 0 = .ok (.iconst 1, 1) := by decide +kernel
theorem dX12_isRuled_1 : decode cX12_isRuled 1 = .ok (.istore_n 1, 1) := by decide +kernel
theorem dX12_isRuled_2 : decode cX12_isRuled 2 = .ok (.iconst 0, 1) := by decide +kernel
theorem dX12_isRuled_3 : decode cX12_isRuled 3 = .ok (.istore_n 2, 1) := by decide +kernel
theorem dX12_isRuled_4 : decode cX12_isRuled 4 = .ok (.iload_n 2, 1) := by decide +kernel
theorem dX12_isRuled_5 : decode cX12_isRuled 5 = .ok (.aload_n 0, 1) := by decide +kernel
theorem dX12_isRuled_6 : decode cX12_isRuled 6 = .ok (.getfield 7, 3) := by decide +kernel
theorem dX12_isRuled_9 : decode cX12_isRuled 9 = .ok (.iconst 4, 1) := by decide +kernel
theorem dX12_isRuled_10 : decode cX12_isRuled 10 = .ok (.iaload, 1) := by decide +kernel
theorem dX12_isRuled_11 : decode cX12_isRuled 11 = .ok (.if_icmp .ge 74, 3) := by decide +kernel
theorem dX12_isRuled_14 : decode cX12_isRuled 14 = .ok (.sipush 160, 3) := by decide +kernel
theorem dX12_isRuled_17 : decode cX12_isRuled 17 = .ok (.iconst 3, 1) := by decide +kernel
theorem dX12_isRuled_18 : decode cX12_isRuled 18 = .ok (.iload_n 2, 1) := by decide +kernel
theorem dX12_isRuled_19 : decode cX12_isRuled 19 = .ok (.imul, 1) := by decide +kernel
theorem dX12_isRuled_20 : decode cX12_isRuled 20 = .ok (.iadd, 1) := by decide +kernel
theorem dX12_isRuled_21 : decode cX12_isRuled 21 = .ok (.istore_n 3, 1) := by decide +kernel
theorem dX12_isRuled_22 : decode cX12_isRuled 22 = .ok (.iload_n 1, 1) := by decide +kernel
theorem dX12_isRuled_23 : decode cX12_isRuled 23 = .ok (.ifCond .eq 54, 3) := by decide +kernel
theorem dX12_isRuled_26 : decode cX12_isRuled 26 = .ok (.aload_n 0, 1) := by decide +kernel
theorem dX12_isRuled_27 : decode cX12_isRuled 27 = .ok (.getfield 80, 3) := by decide +kernel
theorem dX12_isRuled_30 : decode cX12_isRuled 30 = .ok (.aload_n 0, 1) := by decide +kernel
theorem dX12_isRuled_31 : decode cX12_isRuled 31 = .ok (.getfield 7, 3) := by decide +kernel
theorem dX12_isRuled_34 : decode cX12_isRuled 34 = .ok (.iload_n 3, 1) := by decide +kernel
theorem dX12_isRuled_35 : decode cX12_isRuled 35 = .ok (.iaload, 1) := by decide +kernel
theorem dX12_isRuled_36 : decode cX12_isRuled 36 = .ok (.iaload, 1) := by decide +kernel
theorem dX12_isRuled_37 : decode cX12_isRuled 37 = .ok (.aload_n 0, 1) := by decide +kernel
theorem dX12_isRuled_38 : decode cX12_isRuled 38 = .ok (.getfield 7, 3) := by decide +kernel
theorem dX12_isRuled_41 : decode cX12_isRuled 41 = .ok (.iload_n 3, 1) := by decide +kernel
theorem dX12_isRuled_42 : decode cX12_isRuled 42 = .ok (.iconst 1, 1) := by decide +kernel
theorem dX12_isRuled_43 : decode cX12_isRuled 43 = .ok (.iadd, 1) := by decide +kernel
theorem dX12_isRuled_44 : decode cX12_isRuled 44 = .ok (.iaload, 1) := by decide +kernel
theorem dX12_isRuled_45 : decode cX12_isRuled 45 = .ok (.if_icmp .ne 7, 3) := by decide +kernel
theorem dX12_isRuled_48 : decode cX12_isRuled 48 = .ok (.iconst 1, 1) := by decide +kernel
theorem dX12_isRuled_49 : decode cX12_isRuled 49 = .ok (.goto 4, 3) := by decide +kernel
theorem dX12_isRuled_52 : decode cX12_isRuled 52 = .ok (.iconst 0, 1) := by decide +kernel
theorem dX12_isRuled_53 : decode cX12_isRuled 53 = .ok (.aload_n 0, 1) := by decide +kernel
theorem dX12_isRuled_54 : decode cX12_isRuled 54 = .ok (.getfield 7, 3) := by decide +kernel
theorem dX12_isRuled_57 : decode cX12_isRuled 57 = .ok (.iload_n 3, 1) := by decide +kernel
theorem dX12_isRuled_58 : decode cX12_isRuled 58 = .ok (.iconst 2, 1) := by decide +kernel
theorem dX12_isRuled_59 : decode cX12_isRuled 59 = .ok (.iadd, 1) := by decide +kernel
theorem dX12_isRuled_60 : decode cX12_isRuled 60 = .ok (.iaload, 1) := by decide +kernel
theorem dX12_isRuled_61 : decode cX12_isRuled 61 = .ok (.iconst 1, 1) := by decide +kernel
theorem dX12_isRuled_62 : decode cX12_isRuled 62 = .ok (.if_icmp .ne 7, 3) := by decide +kernel
theorem dX12_isRuled_65 : decode cX12_isRuled 65 = .ok (.iconst 1, 1) := by decide +kernel
theorem dX12_isRuled_66 : decode cX12_isRuled 66 = .ok (.goto 4, 3) := by decide +kernel
theorem dX12_isRuled_69 : decode cX12_isRuled 69 = .ok (.iconst 0, 1) := by decide +kernel
theorem dX12_isRuled_70 : decode cX12_isRuled 70 = .ok (.if_icmp .ne 7, 3) := by decide +kernel
theorem dX12_isRuled_73 : decode cX12_isRuled 73 = .ok (.iconst 1, 1) := by decide +kernel
theorem dX12_isRuled_74 : decode cX12_isRuled 74 = .ok (.goto 4, 3) := by decide +kernel
theorem dX12_isRuled_77 : decode cX12_isRuled 77 = .ok (.iconst 0, 1) := by decide +kernel
theorem dX12_isRuled_78 : decode cX12_isRuled 78 = .ok (.istore_n 1, 1) := by decide +kernel
theorem dX12_isRuled_79 : decode cX12_isRuled 79 = .ok (.iinc 2 1, 3) := by decide +kernel
theorem dX12_isRuled_82 : decode cX12_isRuled 82 = .ok (.goto (-78), 3) := by decide +kernel
theorem dX12_isRuled_85 : decode cX12_isRuled 85 = .ok (.iload_n 1, 1) := by decide +kernel
theorem dX12_isRuled_86 : decode cX12_isRuled 86 = .ok (.ireturn, 1) := by decide +kernel
theorem dX12_findBest_0 : decode cX12_findBest 0 = .ok (.aload_n 0, 1) := by decide +kernel
theorem dX12_findBest_1 : decode cX12_findBest 1 = .ok (.getfield 7, 3) := by decide +kernel
theorem dX12_findBest_4 : decode cX12_findBest 4 = .ok (.iconst 2, 1) := by decide +kernel
theorem dX12_findBest_5 : decode cX12_findBest 5 = .ok (.iaload, 1) := by decide +kernel
theorem dX12_findBest_6 : decode cX12_findBest 6 = .ok (.istore_n 2, 1) := by decide +kernel
theorem dX12_findBest_7 : decode cX12_findBest 7 = .ok (.iconst 1, 1) := by decide +kernel
theorem dX12_findBest_8 : decode cX12_findBest 8 = .ok (.istore_n 3, 1) := by decide +kernel
theorem dX12_findBest_9 : decode cX12_findBest 9 = .ok (.iconst 0, 1) := by decide +kernel
theorem dX12_findBest_10 : decode cX12_findBest 10 = .ok (.istore 4, 2) := by decide +kernel
theorem dX12_findBest_12 : decode cX12_findBest 12 = .ok (.iload 4, 2) := by decide +kernel
theorem dX12_findBest_14 : decode cX12_findBest 14 = .ok (.iload_n 2, 1) := by decide +kernel
theorem dX12_findBest_15 : decode cX12_findBest 15 = .ok (.if_icmp .ge 32, 3) := by decide +kernel
theorem dX12_findBest_18 : decode cX12_findBest 18 = .ok (.iload_n 3, 1) := by decide +kernel
theorem dX12_findBest_19 : decode cX12_findBest 19 = .ok (.aload_n 0, 1) := by decide +kernel
theorem dX12_findBest_20 : decode cX12_findBest 20 = .ok (.getfield 7, 3) := by decide +kernel
theorem dX12_findBest_23 : decode cX12_findBest 23 = .ok (.iconst 1, 1) := by decide +kernel
theorem dX12_findBest_24 : decode cX12_findBest 24 = .ok (.iaload, 1) := by decide +kernel
theorem dX12_findBest_25 : decode cX12_findBest 25 = .ok (.imul, 1) := by decide +kernel
theorem dX12_findBest_26 : decode cX12_findBest 26 = .ok (.istore_n 3, 1) := by decide +kernel
theorem dX12_findBest_27 : decode cX12_findBest 27 = .ok (.aload_n 0, 1) := by decide +kernel
theorem dX12_findBest_28 : decode cX12_findBest 28 = .ok (.getfield 86, 3) := by decide +kernel
theorem dX12_findBest_31 : decode cX12_findBest 31 = .ok (.iload 4, 2) := by decide +kernel
theorem dX12_findBest_33 : decode cX12_findBest 33 = .ok (.aload_n 0, 1) := by decide +kernel
theorem dX12_findBest_34 : decode cX12_findBest 34 = .ok (.iload 4, 2) := by decide +kernel
theorem dX12_findBest_36 : decode cX12_findBest 36 = .ok (.iconst 5, 1) := by decide +kernel
theorem dX12_findBest_37 : decode cX12_findBest 37 = .ok (.invokevirtual 147, 3) := by decide +kernel
theorem dX12_findBest_40 : decode cX12_findBest 40 = .ok (.iastore, 1) := by decide +kernel
theorem dX12_findBest_41 : decode cX12_findBest 41 = .ok (.iinc 4 1, 3) := by decide +kernel
theorem dX12_findBest_44 : decode cX12_findBest 44 = .ok (.goto (-32), 3) := by decide +kernel
theorem dX12_findBest_47 : decode cX12_findBest 47 = .ok (.aload_n 0, 1) := by decide +kernel
theorem dX12_findBest_48 : decode cX12_findBest 48 = .ok (.iconst 0, 1) := by decide +kernel
theorem dX12_findBest_49 : decode cX12_findBest 49 = .ok (.putfield 317, 3) := by decide +kernel
theorem dX12_findBest_52 : decode cX12_findBest 52 = .ok (.aload_n 0, 1) := by decide +kernel
theorem dX12_findBest_53 : decode cX12_findBest 53 = .ok (.invokevirtual 255, 3) := by decide +kernel
theorem dX12_findBest_56 : decode cX12_findBest 56 = .ok (.iconst 0, 1) := by decide +kernel
theorem dX12_findBest_57 : decode cX12_findBest 57 = .ok (.istore 4, 2) := by decide +kernel
theorem dX12_findBest_59 : decode cX12_findBest 59 = .ok (.iload 4, 2) := by decide +kernel
theorem dX12_findBest_61 : decode cX12_findBest 61 = .ok (.iload_n 3, 1) := by decide +kernel
theorem dX12_findBest_62 : decode cX12_findBest 62 = .ok (.if_icmp .ge 77, 3) := by decide +kernel
theorem dX12_findBest_65 : decode cX12_findBest 65 = .ok (.aload_n 0, 1) := by decide +kernel
theorem dX12_findBest_66 : decode cX12_findBest 66 = .ok (.iload 4, 2) := by decide +kernel
theorem dX12_findBest_68 : decode cX12_findBest 68 = .ok (.aload_n 0, 1) := by decide +kernel
theorem dX12_findBest_69 : decode cX12_findBest 69 = .ok (.getfield 7, 3) := by decide +kernel
theorem dX12_findBest_72 : decode cX12_findBest 72 = .ok (.iconst 1, 1) := by decide +kernel
theorem dX12_findBest_73 : decode cX12_findBest 73 = .ok (.iaload, 1) := by decide +kernel
theorem dX12_findBest_74 : decode cX12_findBest 74 = .ok (.iload_n 2, 1) := by decide +kernel
theorem dX12_findBest_75 : decode cX12_findBest 75 = .ok (.invokevirtual 326, 3) := by decide +kernel
theorem dX12_findBest_78 : decode cX12_findBest 78 = .ok (.ifCond .eq 55, 3) := by decide +kernel
theorem dX12_findBest_81 : decode cX12_findBest 81 = .ok (.iload_n 1, 1) := by decide +kernel
theorem dX12_findBest_82 : decode cX12_findBest 82 = .ok (.ifCond .eq 10, 3) := by decide +kernel
theorem dX12_findBest_85 : decode cX12_findBest 85 = .ok (.aload_n 0, 1) := by decide +kernel
theorem dX12_findBest_86 : decode cX12_findBest 86 = .ok (.invokevirtual 330, 3) := by decide +kernel
theorem dX12_findBest_89 : decode cX12_findBest 89 = .ok (.ifCond .eq 44, 3) := by decide +kernel
theorem dX12_findBest_92 : decode cX12_findBest 92 = .ok (.iconst 0, 1) := by decide +kernel
theorem dX12_findBest_93 : decode cX12_findBest 93 = .ok (.istore 5, 2) := by decide +kernel
theorem dX12_findBest_95 : decode cX12_findBest 95 = .ok (.iload 5, 2) := by decide +kernel
theorem dX12_findBest_97 : decode cX12_findBest 97 = .ok (.iload_n 2, 1) := by decide +kernel
theorem dX12_findBest_98 : decode cX12_findBest 98 = .ok (.if_icmp .ge 31, 3) := by decide +kernel
theorem dX12_findBest_101 : decode cX12_findBest 101 = .ok (.aload_n 0, 1) := by decide +kernel
theorem dX12_findBest_102 : decode cX12_findBest 102 = .ok (.getfield 7, 3) := by decide +kernel
theorem dX12_findBest_105 : decode cX12_findBest 105 = .ok (.bipush 90, 2) := by decide +kernel
theorem dX12_findBest_107 : decode cX12_findBest 107 = .ok (.bipush 6, 2) := by decide +kernel
theorem dX12_findBest_109 : decode cX12_findBest 109 = .ok (.iload 5, 2) := by decide +kernel
theorem dX12_findBest_111 : decode cX12_findBest 111 = .ok (.imul, 1) := by decide +kernel
theorem dX12_findBest_112 : decode cX12_findBest 112 = .ok (.iadd, 1) := by decide +kernel
theorem dX12_findBest_113 : decode cX12_findBest 113 = .ok (.iconst 5, 1) := by decide +kernel
theorem dX12_findBest_114 : decode cX12_findBest 114 = .ok (.iadd, 1) := by decide +kernel
theorem dX12_findBest_115 : decode cX12_findBest 115 = .ok (.aload_n 0, 1) := by decide +kernel
theorem dX12_findBest_116 : decode cX12_findBest 116 = .ok (.getfield 80, 3) := by decide +kernel
theorem dX12_findBest_119 : decode cX12_findBest 119 = .ok (.iload 5, 2) := by decide +kernel
theorem dX12_findBest_121 : decode cX12_findBest 121 = .ok (.iaload, 1) := by decide +kernel
theorem dX12_findBest_122 : decode cX12_findBest 122 = .ok (.iastore, 1) := by decide +kernel
theorem dX12_findBest_123 : decode cX12_findBest 123 = .ok (.iinc 5 1, 3) := by decide +kernel
theorem dX12_findBest_126 : decode cX12_findBest 126 = .ok (.goto (-31), 3) := by decide +kernel
theorem dX12_findBest_129 : decode cX12_findBest 129 = .ok (.aload_n 0, 1) := by decide +kernel
theorem dX12_findBest_130 : decode cX12_findBest 130 = .ok (.invokevirtual 333, 3) := by decide +kernel
theorem dX12_findBest_133 : decode cX12_findBest 133 = .ok (.iinc 4 1, 3) := by decide +kernel
theorem dX12_findBest_136 : decode cX12_findBest 136 = .ok (.goto (-77), 3) := by decide +kernel
theorem dX12_findBest_139 : decode cX12_findBest 139 = .ok (.iconst 0, 1) := by decide +kernel
theorem dX12_findBest_140 : decode cX12_findBest 140 = .ok (.istore 4, 2) := by decide +kernel
theorem dX12_findBest_142 : decode cX12_findBest 142 = .ok (.iload 4, 2) := by decide +kernel
theorem dX12_findBest_144 : decode cX12_findBest 144 = .ok (.iload_n 2, 1) := by decide +kernel
theorem dX12_findBest_145 : decode cX12_findBest 145 = .ok (.if_icmp .ge 31, 3) := by decide +kernel
theorem dX12_findBest_148 : decode cX12_findBest 148 = .ok (.aload_n 0, 1) := by decide +kernel
theorem dX12_findBest_149 : decode cX12_findBest 149 = .ok (.getfield 7, 3) := by decide +kernel
theorem dX12_findBest_152 : decode cX12_findBest 152 = .ok (.bipush 90, 2) := by decide +kernel
theorem dX12_findBest_154 : decode cX12_findBest 154 = .ok (.bipush 6, 2) := by decide +kernel
theorem dX12_findBest_156 : decode cX12_findBest 156 = .ok (.iload 4, 2) := by decide +kernel
theorem dX12_findBest_158 : decode cX12_findBest 158 = .ok (.imul, 1) := by decide +kernel
theorem dX12_findBest_159 : decode cX12_findBest 159 = .ok (.iadd, 1) := by decide +kernel
theorem dX12_findBest_160 : decode cX12_findBest 160 = .ok (.iconst 5, 1) := by decide +kernel
theorem dX12_findBest_161 : decode cX12_findBest 161 = .ok (.iadd, 1) := by decide +kernel
theorem dX12_findBest_162 : decode cX12_findBest 162 = .ok (.aload_n 0, 1) := by decide +kernel
theorem dX12_findBest_163 : decode cX12_findBest 163 = .ok (.getfield 86, 3) := by decide +kernel
theorem dX12_findBest_166 : decode cX12_findBest 166 = .ok (.iload 4, 2) := by decide +kernel
theorem dX12_findBest_168 : decode cX12_findBest 168 = .ok (.iaload, 1) := by decide +kernel
theorem dX12_findBest_169 : decode cX12_findBest 169 = .ok (.iastore, 1) := by decide +kernel
theorem dX12_findBest_170 : decode cX12_findBest 170 = .ok (.iinc 4 1, 3) := by decide +kernel
theorem dX12_findBest_173 : decode cX12_findBest 173 = .ok (.goto (-31), 3) := by decide +kernel
theorem dX12_findBest_176 : decode cX12_findBest 176 = .ok (.aload_n 0, 1) := by decide +kernel
theorem dX12_findBest_177 : decode cX12_findBest 177 = .ok (.getfield 317, 3) := by decide +kernel
theorem dX12_findBest_180 : decode cX12_findBest 180 = .ok (.ireturn, 1) := by decide +kernel
theorem dX12_best_0 : decode cX12_best 0 = .ok (.iload_n 2, 1) := by decide +kernel
theorem dX12_best_1 : decode cX12_best 1 = .ok (.iconst (-1), 1) := by decide +kernel
theorem dX12_best_2 : decode cX12_best 2 = .ok (.if_icmp .eq 19, 3) := by decide +kernel
theorem dX12_best_5 : decode cX12_best 5 = .ok (.aload_n 0, 1) := by decide +kernel
theorem dX12_best_6 : decode cX12_best 6 = .ok (.iload_n 2, 1) := by decide +kernel
theorem dX12_best_7 : decode cX12_best 7 = .ok (.invokevirtual 141, 3) := by decide +kernel
theorem dX12_best_10 : decode cX12_best 10 = .ok (.ifCond .ne 11, 3) := by decide +kernel
theorem dX12_best_13 : decode cX12_best 13 = .ok (.aload_n 0, 1) := by decide +kernel
theorem dX12_best_14 : decode cX12_best 14 = .ok (.iconst 0, 1) := by decide +kernel
theorem dX12_best_15 : decode cX12_best 15 = .ok (.bipush (-10), 2) := by decide +kernel
theorem dX12_best_17 : decode cX12_best 17 = .ok (.invokevirtual 100, 3) := by decide +kernel
theorem dX12_best_20 : decode cX12_best 20 = .ok (.ireturn, 1) := by decide +kernel
theorem dX12_best_21 : decode cX12_best 21 = .ok (.aload_n 0, 1) := by decide +kernel
theorem dX12_best_22 : decode cX12_best 22 = .ok (.iload_n 1, 1) := by decide +kernel
theorem dX12_best_23 : decode cX12_best 23 = .ok (.invokevirtual 336, 3) := by decide +kernel
theorem dX12_best_26 : decode cX12_best 26 = .ok (.ifCond .ne 11, 3) := by decide +kernel
theorem dX12_best_29 : decode cX12_best 29 = .ok (.aload_n 0, 1) := by decide +kernel
theorem dX12_best_30 : decode cX12_best 30 = .ok (.iconst 1, 1) := by decide +kernel
theorem dX12_best_31 : decode cX12_best 31 = .ok (.bipush (-20), 2) := by decide +kernel
theorem dX12_best_33 : decode cX12_best 33 = .ok (.invokevirtual 100, 3) := by decide +kernel
theorem dX12_best_36 : decode cX12_best 36 = .ok (.ireturn, 1) := by decide +kernel
theorem dX12_best_37 : decode cX12_best 37 = .ok (.iload_n 2, 1) := by decide +kernel
theorem dX12_best_38 : decode cX12_best 38 = .ok (.iconst (-1), 1) := by decide +kernel
theorem dX12_best_39 : decode cX12_best 39 = .ok (.if_icmp .ne 10, 3) := by decide +kernel
theorem dX12_best_42 : decode cX12_best 42 = .ok (.aload_n 0, 1) := by decide +kernel
theorem dX12_best_43 : decode cX12_best 43 = .ok (.getfield 320, 3) := by decide +kernel
theorem dX12_best_46 : decode cX12_best 46 = .ok (.goto 9, 3) := by decide +kernel
theorem dX12_best_49 : decode cX12_best 49 = .ok (.aload_n 0, 1) := by decide +kernel
theorem dX12_best_50 : decode cX12_best 50 = .ok (.getfield 83, 3) := by decide +kernel
theorem dX12_best_53 : decode cX12_best 53 = .ok (.iload_n 2, 1) := by decide +kernel
theorem dX12_best_54 : decode cX12_best 54 = .ok (.iaload, 1) := by decide +kernel
theorem dX12_best_55 : decode cX12_best 55 = .ok (.ireturn, 1) := by decide +kernel
theorem dX12_cost_0 : decode cX12_cost 0 = .ok (.aload_n 0, 1) := by decide +kernel
theorem dX12_cost_1 : decode cX12_cost 1 = .ok (.iconst 0, 1) := by decide +kernel
theorem dX12_cost_2 : decode cX12_cost 2 = .ok (.invokevirtual 336, 3) := by decide +kernel
theorem dX12_cost_5 : decode cX12_cost 5 = .ok (.ifCond .ne 8, 3) := by decide +kernel
theorem dX12_cost_8 : decode cX12_cost 8 = .ok (.aload_n 0, 1) := by decide +kernel
theorem dX12_cost_9 : decode cX12_cost 9 = .ok (.invokevirtual 124, 3) := by decide +kernel
theorem dX12_cost_12 : decode cX12_cost 12 = .ok (.ireturn, 1) := by decide +kernel
theorem dX12_cost_13 : decode cX12_cost 13 = .ok (.aload_n 0, 1) := by decide +kernel
theorem dX12_cost_14 : decode cX12_cost 14 = .ok (.getfield 320, 3) := by decide +kernel
theorem dX12_cost_17 : decode cX12_cost 17 = .ok (.istore_n 1, 1) := by decide +kernel
theorem dX12_cost_18 : decode cX12_cost 18 = .ok (.aload_n 0, 1) := by decide +kernel
theorem dX12_cost_19 : decode cX12_cost 19 = .ok (.iconst 1, 1) := by decide +kernel
theorem dX12_cost_20 : decode cX12_cost 20 = .ok (.invokevirtual 336, 3) := by decide +kernel
theorem dX12_cost_23 : decode cX12_cost 23 = .ok (.ifCond .eq 12, 3) := by decide +kernel
theorem dX12_cost_26 : decode cX12_cost 26 = .ok (.iload_n 1, 1) := by decide +kernel
theorem dX12_cost_27 : decode cX12_cost 27 = .ok (.aload_n 0, 1) := by decide +kernel
theorem dX12_cost_28 : decode cX12_cost 28 = .ok (.getfield 320, 3) := by decide +kernel
theorem dX12_cost_31 : decode cX12_cost 31 = .ok (.isub, 1) := by decide +kernel
theorem dX12_cost_32 : decode cX12_cost 32 = .ok (.goto 7, 3) := by decide +kernel
theorem dX12_cost_35 : decode cX12_cost 35 = .ok (.aload_n 0, 1) := by decide +kernel
theorem dX12_cost_36 : decode cX12_cost 36 = .ok (.invokevirtual 124, 3) := by decide +kernel
theorem dX12_cost_39 : decode cX12_cost 39 = .ok (.ireturn, 1) := by decide +kernel
theorem dX12_order_0 : decode cX12_order 0 = .ok (.iload_n 1, 1) := by decide +kernel
theorem dX12_order_1 : decode cX12_order 1 = .ok (.iconst (-1), 1) := by decide +kernel
theorem dX12_order_2 : decode cX12_order 2 = .ok (.if_icmp .eq 16, 3) := by decide +kernel
theorem dX12_order_5 : decode cX12_order 5 = .ok (.aload_n 0, 1) := by decide +kernel
theorem dX12_order_6 : decode cX12_order 6 = .ok (.iload_n 1, 1) := by decide +kernel
theorem dX12_order_7 : decode cX12_order 7 = .ok (.invokevirtual 141, 3) := by decide +kernel
theorem dX12_order_10 : decode cX12_order 10 = .ok (.ifCond .ne 8, 3) := by decide +kernel
theorem dX12_order_13 : decode cX12_order 13 = .ok (.aload_n 0, 1) := by decide +kernel
theorem dX12_order_14 : decode cX12_order 14 = .ok (.invokevirtual 117, 3) := by decide +kernel
theorem dX12_order_17 : decode cX12_order 17 = .ok (.ireturn, 1) := by decide +kernel
theorem dX12_order_18 : decode cX12_order 18 = .ok (.aload_n 0, 1) := by decide +kernel
theorem dX12_order_19 : decode cX12_order 19 = .ok (.getfield 7, 3) := by decide +kernel
theorem dX12_order_22 : decode cX12_order 22 = .ok (.iconst 2, 1) := by decide +kernel
theorem dX12_order_23 : decode cX12_order 23 = .ok (.iaload, 1) := by decide +kernel
theorem dX12_order_24 : decode cX12_order 24 = .ok (.istore_n 2, 1) := by decide +kernel
theorem dX12_order_25 : decode cX12_order 25 = .ok (.iload_n 2, 1) := by decide +kernel
theorem dX12_order_26 : decode cX12_order 26 = .ok (.ifCond .ne 8, 3) := by decide +kernel
theorem dX12_order_29 : decode cX12_order 29 = .ok (.aload_n 0, 1) := by decide +kernel
theorem dX12_order_30 : decode cX12_order 30 = .ok (.invokevirtual 124, 3) := by decide +kernel
theorem dX12_order_33 : decode cX12_order 33 = .ok (.ireturn, 1) := by decide +kernel
theorem dX12_order_34 : decode cX12_order 34 = .ok (.iconst 1, 1) := by decide +kernel
theorem dX12_order_35 : decode cX12_order 35 = .ok (.istore_n 3, 1) := by decide +kernel
theorem dX12_order_36 : decode cX12_order 36 = .ok (.iconst 0, 1) := by decide +kernel
theorem dX12_order_37 : decode cX12_order 37 = .ok (.istore 4, 2) := by decide +kernel
theorem dX12_order_39 : decode cX12_order 39 = .ok (.iload 4, 2) := by decide +kernel
theorem dX12_order_41 : decode cX12_order 41 = .ok (.iload_n 2, 1) := by decide +kernel
theorem dX12_order_42 : decode cX12_order 42 = .ok (.if_icmp .ge 27, 3) := by decide +kernel
theorem dX12_order_45 : decode cX12_order 45 = .ok (.iload_n 3, 1) := by decide +kernel
theorem dX12_order_46 : decode cX12_order 46 = .ok (.iload_n 2, 1) := by decide +kernel
theorem dX12_order_47 : decode cX12_order 47 = .ok (.imul, 1) := by decide +kernel
theorem dX12_order_48 : decode cX12_order 48 = .ok (.istore_n 3, 1) := by decide +kernel
theorem dX12_order_49 : decode cX12_order 49 = .ok (.aload_n 0, 1) := by decide +kernel
theorem dX12_order_50 : decode cX12_order 50 = .ok (.getfield 86, 3) := by decide +kernel
theorem dX12_order_53 : decode cX12_order 53 = .ok (.iload 4, 2) := by decide +kernel
theorem dX12_order_55 : decode cX12_order 55 = .ok (.aload_n 0, 1) := by decide +kernel
theorem dX12_order_56 : decode cX12_order 56 = .ok (.iload 4, 2) := by decide +kernel
theorem dX12_order_58 : decode cX12_order 58 = .ok (.iconst 2, 1) := by decide +kernel
theorem dX12_order_59 : decode cX12_order 59 = .ok (.invokevirtual 147, 3) := by decide +kernel
theorem dX12_order_62 : decode cX12_order 62 = .ok (.iastore, 1) := by decide +kernel
theorem dX12_order_63 : decode cX12_order 63 = .ok (.iinc 4 1, 3) := by decide +kernel
theorem dX12_order_66 : decode cX12_order 66 = .ok (.goto (-27), 3) := by decide +kernel
theorem dX12_order_69 : decode cX12_order 69 = .ok (.aload_n 0, 1) := by decide +kernel
theorem dX12_order_70 : decode cX12_order 70 = .ok (.iconst 0, 1) := by decide +kernel
theorem dX12_order_71 : decode cX12_order 71 = .ok (.putfield 317, 3) := by decide +kernel
theorem dX12_order_74 : decode cX12_order 74 = .ok (.aload_n 0, 1) := by decide +kernel
theorem dX12_order_75 : decode cX12_order 75 = .ok (.invokevirtual 255, 3) := by decide +kernel
theorem dX12_order_78 : decode cX12_order 78 = .ok (.iconst 0, 1) := by decide +kernel
theorem dX12_order_79 : decode cX12_order 79 = .ok (.istore 4, 2) := by decide +kernel
theorem dX12_order_81 : decode cX12_order 81 = .ok (.iload 4, 2) := by decide +kernel
theorem dX12_order_83 : decode cX12_order 83 = .ok (.iload_n 3, 1) := by decide +kernel
theorem dX12_order_84 : decode cX12_order 84 = .ok (.if_icmp .ge 119, 3) := by decide +kernel
theorem dX12_order_87 : decode cX12_order 87 = .ok (.aload_n 0, 1) := by decide +kernel
theorem dX12_order_88 : decode cX12_order 88 = .ok (.iload 4, 2) := by decide +kernel
theorem dX12_order_90 : decode cX12_order 90 = .ok (.iload_n 2, 1) := by decide +kernel
theorem dX12_order_91 : decode cX12_order 91 = .ok (.iload_n 2, 1) := by decide +kernel
theorem dX12_order_92 : decode cX12_order 92 = .ok (.invokevirtual 326, 3) := by decide +kernel
theorem dX12_order_95 : decode cX12_order 95 = .ok (.istore 5, 2) := by decide +kernel
theorem dX12_order_97 : decode cX12_order 97 = .ok (.iconst 0, 1) := by decide +kernel
theorem dX12_order_98 : decode cX12_order 98 = .ok (.istore 6, 2) := by decide +kernel
theorem dX12_order_100 : decode cX12_order 100 = .ok (.iload 6, 2) := by decide +kernel
theorem dX12_order_102 : decode cX12_order 102 = .ok (.iload_n 2, 1) := by decide +kernel
theorem dX12_order_103 : decode cX12_order 103 = .ok (.if_icmp .ge 43, 3) := by decide +kernel
theorem dX12_order_106 : decode cX12_order 106 = .ok (.iload 5, 2) := by decide +kernel
theorem dX12_order_108 : decode cX12_order 108 = .ok (.ifCond .eq 29, 3) := by decide +kernel
theorem dX12_order_111 : decode cX12_order 111 = .ok (.aload_n 0, 1) := by decide +kernel
theorem dX12_order_112 : decode cX12_order 112 = .ok (.getfield 86, 3) := by decide +kernel
theorem dX12_order_115 : decode cX12_order 115 = .ok (.aload_n 0, 1) := by decide +kernel
theorem dX12_order_116 : decode cX12_order 116 = .ok (.getfield 80, 3) := by decide +kernel
theorem dX12_order_119 : decode cX12_order 119 = .ok (.iload 6, 2) := by decide +kernel
theorem dX12_order_121 : decode cX12_order 121 = .ok (.iaload, 1) := by decide +kernel
theorem dX12_order_122 : decode cX12_order 122 = .ok (.iaload, 1) := by decide +kernel
theorem dX12_order_123 : decode cX12_order 123 = .ok (.aload_n 0, 1) := by decide +kernel
theorem dX12_order_124 : decode cX12_order 124 = .ok (.iload 6, 2) := by decide +kernel
theorem dX12_order_126 : decode cX12_order 126 = .ok (.iconst 3, 1) := by decide +kernel
theorem dX12_order_127 : decode cX12_order 127 = .ok (.invokevirtual 147, 3) := by decide +kernel
theorem dX12_order_130 : decode cX12_order 130 = .ok (.if_icmp .ge 7, 3) := by decide +kernel
theorem dX12_order_133 : decode cX12_order 133 = .ok (.iconst 1, 1) := by decide +kernel
theorem dX12_order_134 : decode cX12_order 134 = .ok (.goto 4, 3) := by decide +kernel
theorem dX12_order_137 : decode cX12_order 137 = .ok (.iconst 0, 1) := by decide +kernel
theorem dX12_order_138 : decode cX12_order 138 = .ok (.istore 5, 2) := by decide +kernel
theorem dX12_order_140 : decode cX12_order 140 = .ok (.iinc 6 1, 3) := by decide +kernel
theorem dX12_order_143 : decode cX12_order 143 = .ok (.goto (-43), 3) := by decide +kernel
theorem dX12_order_146 : decode cX12_order 146 = .ok (.iload 5, 2) := by decide +kernel
theorem dX12_order_148 : decode cX12_order 148 = .ok (.ifCond .eq 49, 3) := by decide +kernel
theorem dX12_order_151 : decode cX12_order 151 = .ok (.iconst 0, 1) := by decide +kernel
theorem dX12_order_152 : decode cX12_order 152 = .ok (.istore 6, 2) := by decide +kernel
theorem dX12_order_154 : decode cX12_order 154 = .ok (.iload 6, 2) := by decide +kernel
theorem dX12_order_156 : decode cX12_order 156 = .ok (.iload_n 2, 1) := by decide +kernel
theorem dX12_order_157 : decode cX12_order 157 = .ok (.if_icmp .ge 36, 3) := by decide +kernel
theorem dX12_order_160 : decode cX12_order 160 = .ok (.aload_n 0, 1) := by decide +kernel
theorem dX12_order_161 : decode cX12_order 161 = .ok (.getfield 7, 3) := by decide +kernel
theorem dX12_order_164 : decode cX12_order 164 = .ok (.bipush 90, 2) := by decide +kernel
theorem dX12_order_166 : decode cX12_order 166 = .ok (.bipush 6, 2) := by decide +kernel
theorem dX12_order_168 : decode cX12_order 168 = .ok (.iload 6, 2) := by decide +kernel
theorem dX12_order_170 : decode cX12_order 170 = .ok (.imul, 1) := by decide +kernel
theorem dX12_order_171 : decode cX12_order 171 = .ok (.iadd, 1) := by decide +kernel
theorem dX12_order_172 : decode cX12_order 172 = .ok (.iconst 2, 1) := by decide +kernel
theorem dX12_order_173 : decode cX12_order 173 = .ok (.iadd, 1) := by decide +kernel
theorem dX12_order_174 : decode cX12_order 174 = .ok (.aload_n 0, 1) := by decide +kernel
theorem dX12_order_175 : decode cX12_order 175 = .ok (.getfield 86, 3) := by decide +kernel
theorem dX12_order_178 : decode cX12_order 178 = .ok (.aload_n 0, 1) := by decide +kernel
theorem dX12_order_179 : decode cX12_order 179 = .ok (.getfield 80, 3) := by decide +kernel
theorem dX12_order_182 : decode cX12_order 182 = .ok (.iload 6, 2) := by decide +kernel
theorem dX12_order_184 : decode cX12_order 184 = .ok (.iaload, 1) := by decide +kernel
theorem dX12_order_185 : decode cX12_order 185 = .ok (.iaload, 1) := by decide +kernel
theorem dX12_order_186 : decode cX12_order 186 = .ok (.iastore, 1) := by decide +kernel
theorem dX12_order_187 : decode cX12_order 187 = .ok (.iinc 6 1, 3) := by decide +kernel
theorem dX12_order_190 : decode cX12_order 190 = .ok (.goto (-36), 3) := by decide +kernel
theorem dX12_order_193 : decode cX12_order 193 = .ok (.aload_n 0, 1) := by decide +kernel
theorem dX12_order_194 : decode cX12_order 194 = .ok (.invokevirtual 333, 3) := by decide +kernel
theorem dX12_order_197 : decode cX12_order 197 = .ok (.iinc 4 1, 3) := by decide +kernel
theorem dX12_order_200 : decode cX12_order 200 = .ok (.goto (-119), 3) := by decide +kernel
theorem dX12_order_203 : decode cX12_order 203 = .ok (.iconst 0, 1) := by decide +kernel
theorem dX12_order_204 : decode cX12_order 204 = .ok (.istore 4, 2) := by decide +kernel
theorem dX12_order_206 : decode cX12_order 206 = .ok (.iload 4, 2) := by decide +kernel
theorem dX12_order_208 : decode cX12_order 208 = .ok (.iload_n 2, 1) := by decide +kernel
theorem dX12_order_209 : decode cX12_order 209 = .ok (.if_icmp .ge 31, 3) := by decide +kernel
theorem dX12_order_212 : decode cX12_order 212 = .ok (.aload_n 0, 1) := by decide +kernel
theorem dX12_order_213 : decode cX12_order 213 = .ok (.getfield 7, 3) := by decide +kernel
theorem dX12_order_216 : decode cX12_order 216 = .ok (.bipush 90, 2) := by decide +kernel
theorem dX12_order_218 : decode cX12_order 218 = .ok (.bipush 6, 2) := by decide +kernel
theorem dX12_order_220 : decode cX12_order 220 = .ok (.iload 4, 2) := by decide +kernel
theorem dX12_order_222 : decode cX12_order 222 = .ok (.imul, 1) := by decide +kernel
theorem dX12_order_223 : decode cX12_order 223 = .ok (.iadd, 1) := by decide +kernel
theorem dX12_order_224 : decode cX12_order 224 = .ok (.iconst 2, 1) := by decide +kernel
theorem dX12_order_225 : decode cX12_order 225 = .ok (.iadd, 1) := by decide +kernel
theorem dX12_order_226 : decode cX12_order 226 = .ok (.aload_n 0, 1) := by decide +kernel
theorem dX12_order_227 : decode cX12_order 227 = .ok (.getfield 86, 3) := by decide +kernel
theorem dX12_order_230 : decode cX12_order 230 = .ok (.iload 4, 2) := by decide +kernel
theorem dX12_order_232 : decode cX12_order 232 = .ok (.iaload, 1) := by decide +kernel
theorem dX12_order_233 : decode cX12_order 233 = .ok (.iastore, 1) := by decide +kernel
theorem dX12_order_234 : decode cX12_order 234 = .ok (.iinc 4 1, 3) := by decide +kernel
theorem dX12_order_237 : decode cX12_order 237 = .ok (.goto (-31), 3) := by decide +kernel
theorem dX12_order_240 : decode cX12_order 240 = .ok (.iload_n 1, 1) := by decide +kernel
theorem dX12_order_241 : decode cX12_order 241 = .ok (.iconst (-1), 1) := by decide +kernel
theorem dX12_order_242 : decode cX12_order 242 = .ok (.if_icmp .ne 10, 3) := by decide +kernel
theorem dX12_order_245 : decode cX12_order 245 = .ok (.aload_n 0, 1) := by decide +kernel
theorem dX12_order_246 : decode cX12_order 246 = .ok (.getfield 320, 3) := by decide +kernel
theorem dX12_order_249 : decode cX12_order 249 = .ok (.goto 9, 3) := by decide +kernel
theorem dX12_order_252 : decode cX12_order 252 = .ok (.aload_n 0, 1) := by decide +kernel
theorem dX12_order_253 : decode cX12_order 253 = .ok (.getfield 83, 3) := by decide +kernel
theorem dX12_order_256 : decode cX12_order 256 = .ok (.iload_n 1, 1) := by decide +kernel
theorem dX12_order_257 : decode cX12_order 257 = .ok (.iaload, 1) := by decide +kernel
theorem dX12_order_258 : decode cX12_order 258 = .ok (.ireturn, 1) := by decide +kernel
theorem dX12_worthOf_0 : decode cX12_worthOf 0 = .ok (.aload_n 0, 1) := by decide +kernel
theorem dX12_worthOf_1 : decode cX12_worthOf 1 = .ok (.invokevirtual 255, 3) := by decide +kernel
theorem dX12_worthOf_4 : decode cX12_worthOf 4 = .ok (.aload_n 0, 1) := by decide +kernel
theorem dX12_worthOf_5 : decode cX12_worthOf 5 = .ok (.invokevirtual 302, 3) := by decide +kernel
theorem dX12_worthOf_8 : decode cX12_worthOf 8 = .ok (.aload_n 0, 1) := by decide +kernel
theorem dX12_worthOf_9 : decode cX12_worthOf 9 = .ok (.getfield 296, 3) := by decide +kernel
theorem dX12_worthOf_12 : decode cX12_worthOf 12 = .ok (.istore_n 3, 1) := by decide +kernel
theorem dX12_worthOf_13 : decode cX12_worthOf 13 = .ok (.iload_n 1, 1) := by decide +kernel
theorem dX12_worthOf_14 : decode cX12_worthOf 14 = .ok (.ifCond .ne 15, 3) := by decide +kernel
theorem dX12_worthOf_17 : decode cX12_worthOf 17 = .ok (.bipush 90, 2) := by decide +kernel
theorem dX12_worthOf_19 : decode cX12_worthOf 19 = .ok (.bipush 6, 2) := by decide +kernel
theorem dX12_worthOf_21 : decode cX12_worthOf 21 = .ok (.iload_n 2, 1) := by decide +kernel
theorem dX12_worthOf_22 : decode cX12_worthOf 22 = .ok (.imul, 1) := by decide +kernel
theorem dX12_worthOf_23 : decode cX12_worthOf 23 = .ok (.iadd, 1) := by decide +kernel
theorem dX12_worthOf_24 : decode cX12_worthOf 24 = .ok (.iconst 0, 1) := by decide +kernel
theorem dX12_worthOf_25 : decode cX12_worthOf 25 = .ok (.iadd, 1) := by decide +kernel
theorem dX12_worthOf_26 : decode cX12_worthOf 26 = .ok (.goto 33, 3) := by decide +kernel
theorem dX12_worthOf_29 : decode cX12_worthOf 29 = .ok (.iload_n 1, 1) := by decide +kernel
theorem dX12_worthOf_30 : decode cX12_worthOf 30 = .ok (.iconst 2, 1) := by decide +kernel
theorem dX12_worthOf_31 : decode cX12_worthOf 31 = .ok (.if_icmp .ne 10, 3) := by decide +kernel
theorem dX12_worthOf_34 : decode cX12_worthOf 34 = .ok (.bipush 46, 2) := by decide +kernel
theorem dX12_worthOf_36 : decode cX12_worthOf 36 = .ok (.iload_n 2, 1) := by decide +kernel
theorem dX12_worthOf_37 : decode cX12_worthOf 37 = .ok (.iadd, 1) := by decide +kernel
theorem dX12_worthOf_38 : decode cX12_worthOf 38 = .ok (.goto 21, 3) := by decide +kernel
theorem dX12_worthOf_41 : decode cX12_worthOf 41 = .ok (.iload_n 1, 1) := by decide +kernel
theorem dX12_worthOf_42 : decode cX12_worthOf 42 = .ok (.iconst 3, 1) := by decide +kernel
theorem dX12_worthOf_43 : decode cX12_worthOf 43 = .ok (.if_icmp .ne 15, 3) := by decide +kernel
theorem dX12_worthOf_46 : decode cX12_worthOf 46 = .ok (.bipush 90, 2) := by decide +kernel
theorem dX12_worthOf_48 : decode cX12_worthOf 48 = .ok (.bipush 6, 2) := by decide +kernel
theorem dX12_worthOf_50 : decode cX12_worthOf 50 = .ok (.iload_n 2, 1) := by decide +kernel
theorem dX12_worthOf_51 : decode cX12_worthOf 51 = .ok (.imul, 1) := by decide +kernel
theorem dX12_worthOf_52 : decode cX12_worthOf 52 = .ok (.iadd, 1) := by decide +kernel
theorem dX12_worthOf_53 : decode cX12_worthOf 53 = .ok (.iconst 4, 1) := by decide +kernel
theorem dX12_worthOf_54 : decode cX12_worthOf 54 = .ok (.iadd, 1) := by decide +kernel
theorem dX12_worthOf_55 : decode cX12_worthOf 55 = .ok (.goto 4, 3) := by decide +kernel
theorem dX12_worthOf_58 : decode cX12_worthOf 58 = .ok (.iconst 5, 1) := by decide +kernel
theorem dX12_worthOf_59 : decode cX12_worthOf 59 = .ok (.istore 4, 2) := by decide +kernel
theorem dX12_worthOf_61 : decode cX12_worthOf 61 = .ok (.aload_n 0, 1) := by decide +kernel
theorem dX12_worthOf_62 : decode cX12_worthOf 62 = .ok (.getfield 7, 3) := by decide +kernel
theorem dX12_worthOf_65 : decode cX12_worthOf 65 = .ok (.iload 4, 2) := by decide +kernel
theorem dX12_worthOf_67 : decode cX12_worthOf 67 = .ok (.iaload, 1) := by decide +kernel
theorem dX12_worthOf_68 : decode cX12_worthOf 68 = .ok (.istore 5, 2) := by decide +kernel
theorem dX12_worthOf_70 : decode cX12_worthOf 70 = .ok (.aload_n 0, 1) := by decide +kernel
theorem dX12_worthOf_71 : decode cX12_worthOf 71 = .ok (.getfield 7, 3) := by decide +kernel
theorem dX12_worthOf_74 : decode cX12_worthOf 74 = .ok (.iload 4, 2) := by decide +kernel
theorem dX12_worthOf_76 : decode cX12_worthOf 76 = .ok (.iload_n 1, 1) := by decide +kernel
theorem dX12_worthOf_77 : decode cX12_worthOf 77 = .ok (.ifCond .ne 11, 3) := by decide +kernel
theorem dX12_worthOf_80 : decode cX12_worthOf 80 = .ok (.iload 5, 2) := by decide +kernel
theorem dX12_worthOf_82 : decode cX12_worthOf 82 = .ok (.bipush 10, 2) := by decide +kernel
theorem dX12_worthOf_84 : decode cX12_worthOf 84 = .ok (.iadd, 1) := by decide +kernel
theorem dX12_worthOf_85 : decode cX12_worthOf 85 = .ok (.goto 14, 3) := by decide +kernel
theorem dX12_worthOf_88 : decode cX12_worthOf 88 = .ok (.iload_n 1, 1) := by decide +kernel
theorem dX12_worthOf_89 : decode cX12_worthOf 89 = .ok (.iconst 1, 1) := by decide +kernel
theorem dX12_worthOf_90 : decode cX12_worthOf 90 = .ok (.if_icmp .ne 8, 3) := by decide +kernel
theorem dX12_worthOf_93 : decode cX12_worthOf 93 = .ok (.iload 5, 2) := by decide +kernel
theorem dX12_worthOf_95 : decode cX12_worthOf 95 = .ok (.goto 4, 3) := by decide +kernel
theorem dX12_worthOf_98 : decode cX12_worthOf 98 = .ok (.iconst 0, 1) := by decide +kernel
theorem dX12_worthOf_99 : decode cX12_worthOf 99 = .ok (.iastore, 1) := by decide +kernel
theorem dX12_worthOf_100 : decode cX12_worthOf 100 = .ok (.aload_n 0, 1) := by decide +kernel
theorem dX12_worthOf_101 : decode cX12_worthOf 101 = .ok (.iload_n 1, 1) := by decide +kernel
theorem dX12_worthOf_102 : decode cX12_worthOf 102 = .ok (.iconst 1, 1) := by decide +kernel
theorem dX12_worthOf_103 : decode cX12_worthOf 103 = .ok (.if_icmp .ne 7, 3) := by decide +kernel
theorem dX12_worthOf_106 : decode cX12_worthOf 106 = .ok (.iconst 5, 1) := by decide +kernel
theorem dX12_worthOf_107 : decode cX12_worthOf 107 = .ok (.goto 4, 3) := by decide +kernel
theorem dX12_worthOf_110 : decode cX12_worthOf 110 = .ok (.iconst 0, 1) := by decide +kernel
theorem dX12_worthOf_111 : decode cX12_worthOf 111 = .ok (.putfield 252, 3) := by decide +kernel
theorem dX12_worthOf_114 : decode cX12_worthOf 114 = .ok (.aload_n 0, 1) := by decide +kernel
theorem dX12_worthOf_115 : decode cX12_worthOf 115 = .ok (.invokevirtual 302, 3) := by decide +kernel
theorem dX12_worthOf_118 : decode cX12_worthOf 118 = .ok (.aload_n 0, 1) := by decide +kernel
theorem dX12_worthOf_119 : decode cX12_worthOf 119 = .ok (.iconst 0, 1) := by decide +kernel
theorem dX12_worthOf_120 : decode cX12_worthOf 120 = .ok (.putfield 252, 3) := by decide +kernel
theorem dX12_worthOf_123 : decode cX12_worthOf 123 = .ok (.aload_n 0, 1) := by decide +kernel
theorem dX12_worthOf_124 : decode cX12_worthOf 124 = .ok (.getfield 7, 3) := by decide +kernel
theorem dX12_worthOf_127 : decode cX12_worthOf 127 = .ok (.iload 4, 2) := by decide +kernel
theorem dX12_worthOf_129 : decode cX12_worthOf 129 = .ok (.iload 5, 2) := by decide +kernel
theorem dX12_worthOf_131 : decode cX12_worthOf 131 = .ok (.iastore, 1) := by decide +kernel
theorem dX12_worthOf_132 : decode cX12_worthOf 132 = .ok (.aload_n 0, 1) := by decide +kernel
theorem dX12_worthOf_133 : decode cX12_worthOf 133 = .ok (.getfield 296, 3) := by decide +kernel
theorem dX12_worthOf_136 : decode cX12_worthOf 136 = .ok (.iload_n 3, 1) := by decide +kernel
theorem dX12_worthOf_137 : decode cX12_worthOf 137 = .ok (.isub, 1) := by decide +kernel
theorem dX12_worthOf_138 : decode cX12_worthOf 138 = .ok (.ireturn, 1) := by decide +kernel
theorem dX12_worth_0 : decode cX12_worth 0 = .ok (.iload_n 1, 1) := by decide +kernel
theorem dX12_worth_1 : decode cX12_worth 1 = .ok (.ifCond .eq 8, 3) := by decide +kernel
theorem dX12_worth_4 : decode cX12_worth 4 = .ok (.iload_n 1, 1) := by decide +kernel
theorem dX12_worth_5 : decode cX12_worth 5 = .ok (.iconst 3, 1) := by decide +kernel
theorem dX12_worth_6 : decode cX12_worth 6 = .ok (.if_icmp .ne 11, 3) := by decide +kernel
theorem dX12_worth_9 : decode cX12_worth 9 = .ok (.aload_n 0, 1) := by decide +kernel
theorem dX12_worth_10 : decode cX12_worth 10 = .ok (.iload_n 2, 1) := by decide +kernel
theorem dX12_worth_11 : decode cX12_worth 11 = .ok (.invokevirtual 141, 3) := by decide +kernel
theorem dX12_worth_14 : decode cX12_worth 14 = .ok (.goto 37, 3) := by decide +kernel
theorem dX12_worth_17 : decode cX12_worth 17 = .ok (.iload_n 1, 1) := by decide +kernel
theorem dX12_worth_18 : decode cX12_worth 18 = .ok (.iconst 1, 1) := by decide +kernel
theorem dX12_worth_19 : decode cX12_worth 19 = .ok (.if_icmp .ne 15, 3) := by decide +kernel
theorem dX12_worth_22 : decode cX12_worth 22 = .ok (.iload_n 2, 1) := by decide +kernel
theorem dX12_worth_23 : decode cX12_worth 23 = .ok (.ifCond .ne 7, 3) := by decide +kernel
theorem dX12_worth_26 : decode cX12_worth 26 = .ok (.iconst 1, 1) := by decide +kernel
theorem dX12_worth_27 : decode cX12_worth 27 = .ok (.goto 24, 3) := by decide +kernel
theorem dX12_worth_30 : decode cX12_worth 30 = .ok (.iconst 0, 1) := by decide +kernel
theorem dX12_worth_31 : decode cX12_worth 31 = .ok (.goto 20, 3) := by decide +kernel
theorem dX12_worth_34 : decode cX12_worth 34 = .ok (.iload_n 1, 1) := by decide +kernel
theorem dX12_worth_35 : decode cX12_worth 35 = .ok (.iconst 2, 1) := by decide +kernel
theorem dX12_worth_36 : decode cX12_worth 36 = .ok (.if_icmp .ne 14, 3) := by decide +kernel
theorem dX12_worth_39 : decode cX12_worth 39 = .ok (.iload_n 2, 1) := by decide +kernel
theorem dX12_worth_40 : decode cX12_worth 40 = .ok (.invokestatic 110, 3) := by decide +kernel
theorem dX12_worth_43 : decode cX12_worth 43 = .ok (.ifCond .eq 7, 3) := by decide +kernel
theorem dX12_worth_46 : decode cX12_worth 46 = .ok (.iconst 1, 1) := by decide +kernel
theorem dX12_worth_47 : decode cX12_worth 47 = .ok (.goto 4, 3) := by decide +kernel
theorem dX12_worth_50 : decode cX12_worth 50 = .ok (.iconst 0, 1) := by decide +kernel
theorem dX12_worth_51 : decode cX12_worth 51 = .ok (.istore_n 3, 1) := by decide +kernel
theorem dX12_worth_52 : decode cX12_worth 52 = .ok (.iload_n 3, 1) := by decide +kernel
theorem dX12_worth_53 : decode cX12_worth 53 = .ok (.ifCond .eq 12, 3) := by decide +kernel
theorem dX12_worth_56 : decode cX12_worth 56 = .ok (.aload_n 0, 1) := by decide +kernel
theorem dX12_worth_57 : decode cX12_worth 57 = .ok (.iload_n 1, 1) := by decide +kernel
theorem dX12_worth_58 : decode cX12_worth 58 = .ok (.iload_n 2, 1) := by decide +kernel
theorem dX12_worth_59 : decode cX12_worth 59 = .ok (.invokevirtual 340, 3) := by decide +kernel
theorem dX12_worth_62 : decode cX12_worth 62 = .ok (.goto 10, 3) := by decide +kernel
theorem dX12_worth_65 : decode cX12_worth 65 = .ok (.aload_n 0, 1) := by decide +kernel
theorem dX12_worth_66 : decode cX12_worth 66 = .ok (.iconst 0, 1) := by decide +kernel
theorem dX12_worth_67 : decode cX12_worth 67 = .ok (.bipush (-100), 2) := by decide +kernel
theorem dX12_worth_69 : decode cX12_worth 69 = .ok (.invokevirtual 100, 3) := by decide +kernel
theorem dX12_worth_72 : decode cX12_worth 72 = .ok (.ireturn, 1) := by decide +kernel
theorem dX12_screw_0 : decode cX12_screw 0 = .ok (.iconst (-1), 1) := by decide +kernel
theorem dX12_screw_1 : decode cX12_screw 1 = .ok (.istore_n 1, 1) := by decide +kernel
theorem dX12_screw_2 : decode cX12_screw 2 = .ok (.iconst 0, 1) := by decide +kernel
theorem dX12_screw_3 : decode cX12_screw 3 = .ok (.istore_n 2, 1) := by decide +kernel
theorem dX12_screw_4 : decode cX12_screw 4 = .ok (.iconst 0, 1) := by decide +kernel
theorem dX12_screw_5 : decode cX12_screw 5 = .ok (.istore_n 3, 1) := by decide +kernel
theorem dX12_screw_6 : decode cX12_screw 6 = .ok (.iconst 0, 1) := by decide +kernel
theorem dX12_screw_7 : decode cX12_screw 7 = .ok (.istore 4, 2) := by decide +kernel
theorem dX12_screw_9 : decode cX12_screw 9 = .ok (.iload 4, 2) := by decide +kernel
theorem dX12_screw_11 : decode cX12_screw 11 = .ok (.bipush 36, 2) := by decide +kernel
theorem dX12_screw_13 : decode cX12_screw 13 = .ok (.if_icmp .ge 67, 3) := by decide +kernel
theorem dX12_screw_16 : decode cX12_screw 16 = .ok (.aload_n 0, 1) := by decide +kernel
theorem dX12_screw_17 : decode cX12_screw 17 = .ok (.getfield 7, 3) := by decide +kernel
theorem dX12_screw_20 : decode cX12_screw 20 = .ok (.bipush 46, 2) := by decide +kernel
theorem dX12_screw_22 : decode cX12_screw 22 = .ok (.iload 4, 2) := by decide +kernel
theorem dX12_screw_24 : decode cX12_screw 24 = .ok (.iadd, 1) := by decide +kernel
theorem dX12_screw_25 : decode cX12_screw 25 = .ok (.iaload, 1) := by decide +kernel
theorem dX12_screw_26 : decode cX12_screw 26 = .ok (.ifCond .le 48, 3) := by decide +kernel
theorem dX12_screw_29 : decode cX12_screw 29 = .ok (.aload_n 0, 1) := by decide +kernel
theorem dX12_screw_30 : decode cX12_screw 30 = .ok (.iconst 2, 1) := by decide +kernel
theorem dX12_screw_31 : decode cX12_screw 31 = .ok (.iload 4, 2) := by decide +kernel
theorem dX12_screw_33 : decode cX12_screw 33 = .ok (.invokevirtual 340, 3) := by decide +kernel
theorem dX12_screw_36 : decode cX12_screw 36 = .ok (.istore 5, 2) := by decide +kernel
theorem dX12_screw_38 : decode cX12_screw 38 = .ok (.iload_n 1, 1) := by decide +kernel
theorem dX12_screw_39 : decode cX12_screw 39 = .ok (.iconst (-1), 1) := by decide +kernel
theorem dX12_screw_40 : decode cX12_screw 40 = .ok (.if_icmp .eq 23, 3) := by decide +kernel
theorem dX12_screw_43 : decode cX12_screw 43 = .ok (.iload 5, 2) := by decide +kernel
theorem dX12_screw_45 : decode cX12_screw 45 = .ok (.iload_n 2, 1) := by decide +kernel
theorem dX12_screw_46 : decode cX12_screw 46 = .ok (.if_icmp .gt 17, 3) := by decide +kernel
theorem dX12_screw_49 : decode cX12_screw 49 = .ok (.iload 5, 2) := by decide +kernel
theorem dX12_screw_51 : decode cX12_screw 51 = .ok (.iload_n 2, 1) := by decide +kernel
theorem dX12_screw_52 : decode cX12_screw 52 = .ok (.if_icmp .ne 22, 3) := by decide +kernel
theorem dX12_screw_55 : decode cX12_screw 55 = .ok (.aload_n 0, 1) := by decide +kernel
theorem dX12_screw_56 : decode cX12_screw 56 = .ok (.getfield 299, 3) := by decide +kernel
theorem dX12_screw_59 : decode cX12_screw 59 = .ok (.iload_n 3, 1) := by decide +kernel
theorem dX12_screw_60 : decode cX12_screw 60 = .ok (.if_icmp .le 14, 3) := by decide +kernel
theorem dX12_screw_63 : decode cX12_screw 63 = .ok (.iload 4, 2) := by decide +kernel
theorem dX12_screw_65 : decode cX12_screw 65 = .ok (.istore_n 1, 1) := by decide +kernel
theorem dX12_screw_66 : decode cX12_screw 66 = .ok (.iload 5, 2) := by decide +kernel
theorem dX12_screw_68 : decode cX12_screw 68 = .ok (.istore_n 2, 1) := by decide +kernel
theorem dX12_screw_69 : decode cX12_screw 69 = .ok (.aload_n 0, 1) := by decide +kernel
theorem dX12_screw_70 : decode cX12_screw 70 = .ok (.getfield 299, 3) := by decide +kernel
theorem dX12_screw_73 : decode cX12_screw 73 = .ok (.istore_n 3, 1) := by decide +kernel
theorem dX12_screw_74 : decode cX12_screw 74 = .ok (.iinc 4 1, 3) := by decide +kernel
theorem dX12_screw_77 : decode cX12_screw 77 = .ok (.goto (-68), 3) := by decide +kernel
theorem dX12_screw_80 : decode cX12_screw 80 = .ok (.iload_n 1, 1) := by decide +kernel
theorem dX12_screw_81 : decode cX12_screw 81 = .ok (.ireturn, 1) := by decide +kernel
theorem dX12_rooms_0 : decode cX12_rooms 0 = .ok (.aload_n 0, 1) := by decide +kernel
theorem dX12_rooms_1 : decode cX12_rooms 1 = .ok (.getfield 7, 3) := by decide +kernel
theorem dX12_rooms_4 : decode cX12_rooms 4 = .ok (.iconst 2, 1) := by decide +kernel
theorem dX12_rooms_5 : decode cX12_rooms 5 = .ok (.iaload, 1) := by decide +kernel
theorem dX12_rooms_6 : decode cX12_rooms 6 = .ok (.istore_n 1, 1) := by decide +kernel
theorem dX12_rooms_7 : decode cX12_rooms 7 = .ok (.iload_n 1, 1) := by decide +kernel
theorem dX12_rooms_8 : decode cX12_rooms 8 = .ok (.ifCond .ne 8, 3) := by decide +kernel
theorem dX12_rooms_11 : decode cX12_rooms 11 = .ok (.aload_n 0, 1) := by decide +kernel
theorem dX12_rooms_12 : decode cX12_rooms 12 = .ok (.invokevirtual 124, 3) := by decide +kernel
theorem dX12_rooms_15 : decode cX12_rooms 15 = .ok (.ireturn, 1) := by decide +kernel
theorem dX12_rooms_16 : decode cX12_rooms 16 = .ok (.aload_n 0, 1) := by decide +kernel
theorem dX12_rooms_17 : decode cX12_rooms 17 = .ok (.invokevirtual 255, 3) := by decide +kernel
theorem dX12_rooms_20 : decode cX12_rooms 20 = .ok (.aload_n 0, 1) := by decide +kernel
theorem dX12_rooms_21 : decode cX12_rooms 21 = .ok (.invokevirtual 302, 3) := by decide +kernel
theorem dX12_rooms_24 : decode cX12_rooms 24 = .ok (.iconst 0, 1) := by decide +kernel
theorem dX12_rooms_25 : decode cX12_rooms 25 = .ok (.istore_n 2, 1) := by decide +kernel
theorem dX12_rooms_26 : decode cX12_rooms 26 = .ok (.ldc_w 295, 3) := by decide +kernel
theorem dX12_rooms_29 : decode cX12_rooms 29 = .ok (.istore_n 3, 1) := by decide +kernel
theorem dX12_rooms_30 : decode cX12_rooms 30 = .ok (.iconst 0, 1) := by decide +kernel
theorem dX12_rooms_31 : decode cX12_rooms 31 = .ok (.istore 4, 2) := by decide +kernel
theorem dX12_rooms_33 : decode cX12_rooms 33 = .ok (.iload 4, 2) := by decide +kernel
theorem dX12_rooms_35 : decode cX12_rooms 35 = .ok (.iconst 1, 1) := by decide +kernel
theorem dX12_rooms_36 : decode cX12_rooms 36 = .ok (.iload_n 1, 1) := by decide +kernel
theorem dX12_rooms_37 : decode cX12_rooms 37 = .ok (.ishl, 1) := by decide +kernel
theorem dX12_rooms_38 : decode cX12_rooms 38 = .ok (.if_icmp .ge 109, 3) := by decide +kernel
theorem dX12_rooms_41 : decode cX12_rooms 41 = .ok (.iconst 0, 1) := by decide +kernel
theorem dX12_rooms_42 : decode cX12_rooms 42 = .ok (.istore 5, 2) := by decide +kernel
theorem dX12_rooms_44 : decode cX12_rooms 44 = .ok (.iconst 0, 1) := by decide +kernel
theorem dX12_rooms_45 : decode cX12_rooms 45 = .ok (.istore 6, 2) := by decide +kernel
theorem dX12_rooms_47 : decode cX12_rooms 47 = .ok (.iload 6, 2) := by decide +kernel
theorem dX12_rooms_49 : decode cX12_rooms 49 = .ok (.iload_n 1, 1) := by decide +kernel
theorem dX12_rooms_50 : decode cX12_rooms 50 = .ok (.if_icmp .ge 65, 3) := by decide +kernel
theorem dX12_rooms_53 : decode cX12_rooms 53 = .ok (.iconst 0, 1) := by decide +kernel
theorem dX12_rooms_54 : decode cX12_rooms 54 = .ok (.istore 7, 2) := by decide +kernel
theorem dX12_rooms_56 : decode cX12_rooms 56 = .ok (.iload 7, 2) := by decide +kernel
theorem dX12_rooms_58 : decode cX12_rooms 58 = .ok (.iload_n 1, 1) := by decide +kernel
theorem dX12_rooms_59 : decode cX12_rooms 59 = .ok (.if_icmp .ge 50, 3) := by decide +kernel
theorem dX12_rooms_62 : decode cX12_rooms 62 = .ok (.iload 5, 2) := by decide +kernel
theorem dX12_rooms_64 : decode cX12_rooms 64 = .ok (.iload 6, 2) := by decide +kernel
theorem dX12_rooms_66 : decode cX12_rooms 66 = .ok (.iload 7, 2) := by decide +kernel
theorem dX12_rooms_68 : decode cX12_rooms 68 = .ok (.if_icmp .eq 31, 3) := by decide +kernel
theorem dX12_rooms_71 : decode cX12_rooms 71 = .ok (.iload 4, 2) := by decide +kernel
theorem dX12_rooms_73 : decode cX12_rooms 73 = .ok (.iload 6, 2) := by decide +kernel
theorem dX12_rooms_75 : decode cX12_rooms 75 = .ok (.ishr, 1) := by decide +kernel
theorem dX12_rooms_76 : decode cX12_rooms 76 = .ok (.iconst 1, 1) := by decide +kernel
theorem dX12_rooms_77 : decode cX12_rooms 77 = .ok (.iand, 1) := by decide +kernel
theorem dX12_rooms_78 : decode cX12_rooms 78 = .ok (.iload 4, 2) := by decide +kernel
theorem dX12_rooms_80 : decode cX12_rooms 80 = .ok (.iload 7, 2) := by decide +kernel
theorem dX12_rooms_82 : decode cX12_rooms 82 = .ok (.ishr, 1) := by decide +kernel
theorem dX12_rooms_83 : decode cX12_rooms 83 = .ok (.iconst 1, 1) := by decide +kernel
theorem dX12_rooms_84 : decode cX12_rooms 84 = .ok (.iand, 1) := by decide +kernel
theorem dX12_rooms_85 : decode cX12_rooms 85 = .ok (.if_icmp .ne 14, 3) := by decide +kernel
theorem dX12_rooms_88 : decode cX12_rooms 88 = .ok (.aload_n 0, 1) := by decide +kernel
theorem dX12_rooms_89 : decode cX12_rooms 89 = .ok (.iload 6, 2) := by decide +kernel
theorem dX12_rooms_91 : decode cX12_rooms 91 = .ok (.iload 7, 2) := by decide +kernel
theorem dX12_rooms_93 : decode cX12_rooms 93 = .ok (.invokevirtual 305, 3) := by decide +kernel
theorem dX12_rooms_96 : decode cX12_rooms 96 = .ok (.goto 4, 3) := by decide +kernel
theorem dX12_rooms_99 : decode cX12_rooms 99 = .ok (.iconst 0, 1) := by decide +kernel
theorem dX12_rooms_100 : decode cX12_rooms 100 = .ok (.iadd, 1) := by decide +kernel
theorem dX12_rooms_101 : decode cX12_rooms 101 = .ok (.istore 5, 2) := by decide +kernel
theorem dX12_rooms_103 : decode cX12_rooms 103 = .ok (.iinc 7 1, 3) := by decide +kernel
theorem dX12_rooms_106 : decode cX12_rooms 106 = .ok (.goto (-50), 3) := by decide +kernel
theorem dX12_rooms_109 : decode cX12_rooms 109 = .ok (.iinc 6 1, 3) := by decide +kernel
theorem dX12_rooms_112 : decode cX12_rooms 112 = .ok (.goto (-65), 3) := by decide +kernel
theorem dX12_rooms_115 : decode cX12_rooms 115 = .ok (.iload 5, 2) := by decide +kernel
theorem dX12_rooms_117 : decode cX12_rooms 117 = .ok (.iload_n 3, 1) := by decide +kernel
theorem dX12_rooms_118 : decode cX12_rooms 118 = .ok (.if_icmp .ge 8, 3) := by decide +kernel
theorem dX12_rooms_121 : decode cX12_rooms 121 = .ok (.iload 4, 2) := by decide +kernel
theorem dX12_rooms_123 : decode cX12_rooms 123 = .ok (.goto 4, 3) := by decide +kernel
theorem dX12_rooms_126 : decode cX12_rooms 126 = .ok (.iload_n 2, 1) := by decide +kernel
theorem dX12_rooms_127 : decode cX12_rooms 127 = .ok (.istore_n 2, 1) := by decide +kernel
theorem dX12_rooms_128 : decode cX12_rooms 128 = .ok (.iload 5, 2) := by decide +kernel
theorem dX12_rooms_130 : decode cX12_rooms 130 = .ok (.iload_n 3, 1) := by decide +kernel
theorem dX12_rooms_131 : decode cX12_rooms 131 = .ok (.if_icmp .ge 8, 3) := by decide +kernel
theorem dX12_rooms_134 : decode cX12_rooms 134 = .ok (.iload 5, 2) := by decide +kernel
theorem dX12_rooms_136 : decode cX12_rooms 136 = .ok (.goto 4, 3) := by decide +kernel
theorem dX12_rooms_139 : decode cX12_rooms 139 = .ok (.iload_n 3, 1) := by decide +kernel
theorem dX12_rooms_140 : decode cX12_rooms 140 = .ok (.istore_n 3, 1) := by decide +kernel
theorem dX12_rooms_141 : decode cX12_rooms 141 = .ok (.iinc 4 2, 3) := by decide +kernel
theorem dX12_rooms_144 : decode cX12_rooms 144 = .ok (.goto (-111), 3) := by decide +kernel
theorem dX12_rooms_147 : decode cX12_rooms 147 = .ok (.iload_n 2, 1) := by decide +kernel
theorem dX12_rooms_148 : decode cX12_rooms 148 = .ok (.ireturn, 1) := by decide +kernel
theorem dX12_temperOf_0 : decode cX12_temperOf 0 = .ok (.aload_n 0, 1) := by decide +kernel
theorem dX12_temperOf_1 : decode cX12_temperOf 1 = .ok (.getfield 47, 3) := by decide +kernel
theorem dX12_temperOf_4 : decode cX12_temperOf 4 = .ok (.iload_n 1, 1) := by decide +kernel
theorem dX12_temperOf_5 : decode cX12_temperOf 5 = .ok (.iaload, 1) := by decide +kernel
theorem dX12_temperOf_6 : decode cX12_temperOf 6 = .ok (.bipush 24, 2) := by decide +kernel
theorem dX12_temperOf_8 : decode cX12_temperOf 8 = .ok (.if_icmp .ge 17, 3) := by decide +kernel
theorem dX12_temperOf_11 : decode cX12_temperOf 11 = .ok (.iload_n 2, 1) := by decide +kernel
theorem dX12_temperOf_12 : decode cX12_temperOf 12 = .ok (.bipush 24, 2) := by decide +kernel
theorem dX12_temperOf_14 : decode cX12_temperOf 14 = .ok (.aload_n 0, 1) := by decide +kernel
theorem dX12_temperOf_15 : decode cX12_temperOf 15 = .ok (.getfield 47, 3) := by decide +kernel
theorem dX12_temperOf_18 : decode cX12_temperOf 18 = .ok (.iload_n 1, 1) := by decide +kernel
theorem dX12_temperOf_19 : decode cX12_temperOf 19 = .ok (.iaload, 1) := by decide +kernel
theorem dX12_temperOf_20 : decode cX12_temperOf 20 = .ok (.isub, 1) := by decide +kernel
theorem dX12_temperOf_21 : decode cX12_temperOf 21 = .ok (.imul, 1) := by decide +kernel
theorem dX12_temperOf_22 : decode cX12_temperOf 22 = .ok (.goto 4, 3) := by decide +kernel
theorem dX12_temperOf_25 : decode cX12_temperOf 25 = .ok (.iconst 0, 1) := by decide +kernel
theorem dX12_temperOf_26 : decode cX12_temperOf 26 = .ok (.ireturn, 1) := by decide +kernel
theorem dX12_temper_0 : decode cX12_temper 0 = .ok (.aload_n 0, 1) := by decide +kernel
theorem dX12_temper_1 : decode cX12_temper 1 = .ok (.iload_n 1, 1) := by decide +kernel
theorem dX12_temper_2 : decode cX12_temper 2 = .ok (.invokevirtual 141, 3) := by decide +kernel
theorem dX12_temper_5 : decode cX12_temper 5 = .ok (.ifCond .eq 15, 3) := by decide +kernel
theorem dX12_temper_8 : decode cX12_temper 8 = .ok (.iload_n 2, 1) := by decide +kernel
theorem dX12_temper_9 : decode cX12_temper 9 = .ok (.i2l, 1) := by decide +kernel
theorem dX12_temper_10 : decode cX12_temper 10 = .ok (.lconst 0, 1) := by decide +kernel
theorem dX12_temper_11 : decode cX12_temper 11 = .ok (.ldc2_w 343, 3) := by decide +kernel
theorem dX12_temper_14 : decode cX12_temper 14 = .ok (.invokestatic 106, 3) := by decide +kernel
theorem dX12_temper_17 : decode cX12_temper 17 = .ok (.ifCond .ne 8, 3) := by decide +kernel
theorem dX12_temper_20 : decode cX12_temper 20 = .ok (.aload_n 0, 1) := by decide +kernel
theorem dX12_temper_21 : decode cX12_temper 21 = .ok (.invokevirtual 117, 3) := by decide +kernel
theorem dX12_temper_24 : decode cX12_temper 24 = .ok (.ireturn, 1) := by decide +kernel
theorem dX12_temper_25 : decode cX12_temper 25 = .ok (.aload_n 0, 1) := by decide +kernel
theorem dX12_temper_26 : decode cX12_temper 26 = .ok (.invokevirtual 255, 3) := by decide +kernel
theorem dX12_temper_29 : decode cX12_temper 29 = .ok (.aload_n 0, 1) := by decide +kernel
theorem dX12_temper_30 : decode cX12_temper 30 = .ok (.invokevirtual 302, 3) := by decide +kernel
theorem dX12_temper_33 : decode cX12_temper 33 = .ok (.aload_n 0, 1) := by decide +kernel
theorem dX12_temper_34 : decode cX12_temper 34 = .ok (.iload_n 1, 1) := by decide +kernel
theorem dX12_temper_35 : decode cX12_temper 35 = .ok (.iload_n 2, 1) := by decide +kernel
theorem dX12_temper_36 : decode cX12_temper 36 = .ok (.invokevirtual 345, 3) := by decide +kernel
theorem dX12_temper_39 : decode cX12_temper 39 = .ok (.ireturn, 1) := by decide +kernel
theorem dX12_quarrel_0 : decode cX12_quarrel 0 = .ok (.iload_n 1, 1) := by decide +kernel
theorem dX12_quarrel_1 : decode cX12_quarrel 1 = .ok (.i2l, 1) := by decide +kernel
theorem dX12_quarrel_2 : decode cX12_quarrel 2 = .ok (.lconst 1, 1) := by decide +kernel
theorem dX12_quarrel_3 : decode cX12_quarrel 3 = .ok (.ldc2_w 348, 3) := by decide +kernel
theorem dX12_quarrel_6 : decode cX12_quarrel 6 = .ok (.invokestatic 106, 3) := by decide +kernel
theorem dX12_quarrel_9 : decode cX12_quarrel 9 = .ok (.ifCond .ne 8, 3) := by decide +kernel
theorem dX12_quarrel_12 : decode cX12_quarrel 12 = .ok (.aload_n 0, 1) := by decide +kernel
theorem dX12_quarrel_13 : decode cX12_quarrel 13 = .ok (.invokevirtual 117, 3) := by decide +kernel
theorem dX12_quarrel_16 : decode cX12_quarrel 16 = .ok (.ireturn, 1) := by decide +kernel
theorem dX12_quarrel_17 : decode cX12_quarrel 17 = .ok (.aload_n 0, 1) := by decide +kernel
theorem dX12_quarrel_18 : decode cX12_quarrel 18 = .ok (.invokevirtual 255, 3) := by decide +kernel
theorem dX12_quarrel_21 : decode cX12_quarrel 21 = .ok (.aload_n 0, 1) := by decide +kernel
theorem dX12_quarrel_22 : decode cX12_quarrel 22 = .ok (.invokevirtual 302, 3) := by decide +kernel
theorem dX12_quarrel_25 : decode cX12_quarrel 25 = .ok (.iconst 1, 1) := by decide +kernel
theorem dX12_quarrel_26 : decode cX12_quarrel 26 = .ok (.istore_n 2, 1) := by decide +kernel
theorem dX12_quarrel_27 : decode cX12_quarrel 27 = .ok (.iload_n 2, 1) := by decide +kernel
theorem dX12_quarrel_28 : decode cX12_quarrel 28 = .ok (.bipush 15, 2) := by decide +kernel
theorem dX12_quarrel_30 : decode cX12_quarrel 30 = .ok (.if_icmp .ge 62, 3) := by decide +kernel
theorem dX12_quarrel_33 : decode cX12_quarrel 33 = .ok (.iconst 0, 1) := by decide +kernel
theorem dX12_quarrel_34 : decode cX12_quarrel 34 = .ok (.istore_n 3, 1) := by decide +kernel
theorem dX12_quarrel_35 : decode cX12_quarrel 35 = .ok (.iload_n 3, 1) := by decide +kernel
theorem dX12_quarrel_36 : decode cX12_quarrel 36 = .ok (.aload_n 0, 1) := by decide +kernel
theorem dX12_quarrel_37 : decode cX12_quarrel 37 = .ok (.getfield 7, 3) := by decide +kernel
theorem dX12_quarrel_40 : decode cX12_quarrel 40 = .ok (.iconst 2, 1) := by decide +kernel
theorem dX12_quarrel_41 : decode cX12_quarrel 41 = .ok (.iaload, 1) := by decide +kernel
theorem dX12_quarrel_42 : decode cX12_quarrel 42 = .ok (.if_icmp .ge 44, 3) := by decide +kernel
theorem dX12_quarrel_45 : decode cX12_quarrel 45 = .ok (.iconst 0, 1) := by decide +kernel
theorem dX12_quarrel_46 : decode cX12_quarrel 46 = .ok (.istore 4, 2) := by decide +kernel
theorem dX12_quarrel_48 : decode cX12_quarrel 48 = .ok (.iload 4, 2) := by decide +kernel
theorem dX12_quarrel_50 : decode cX12_quarrel 50 = .ok (.iload_n 3, 1) := by decide +kernel
theorem dX12_quarrel_51 : decode cX12_quarrel 51 = .ok (.if_icmp .ge 29, 3) := by decide +kernel
theorem dX12_quarrel_54 : decode cX12_quarrel 54 = .ok (.aload_n 0, 1) := by decide +kernel
theorem dX12_quarrel_55 : decode cX12_quarrel 55 = .ok (.iload_n 3, 1) := by decide +kernel
theorem dX12_quarrel_56 : decode cX12_quarrel 56 = .ok (.iload_n 2, 1) := by decide +kernel
theorem dX12_quarrel_57 : decode cX12_quarrel 57 = .ok (.invokevirtual 345, 3) := by decide +kernel
theorem dX12_quarrel_60 : decode cX12_quarrel 60 = .ok (.aload_n 0, 1) := by decide +kernel
theorem dX12_quarrel_61 : decode cX12_quarrel 61 = .ok (.iload 4, 2) := by decide +kernel
theorem dX12_quarrel_63 : decode cX12_quarrel 63 = .ok (.iload_n 2, 1) := by decide +kernel
theorem dX12_quarrel_64 : decode cX12_quarrel 64 = .ok (.invokevirtual 345, 3) := by decide +kernel
theorem dX12_quarrel_67 : decode cX12_quarrel 67 = .ok (.iadd, 1) := by decide +kernel
theorem dX12_quarrel_68 : decode cX12_quarrel 68 = .ok (.iload_n 1, 1) := by decide +kernel
theorem dX12_quarrel_69 : decode cX12_quarrel 69 = .ok (.if_icmp .lt 5, 3) := by decide +kernel
theorem dX12_quarrel_72 : decode cX12_quarrel 72 = .ok (.iload_n 2, 1) := by decide +kernel
theorem dX12_quarrel_73 : decode cX12_quarrel 73 = .ok (.ireturn, 1) := by decide +kernel
theorem dX12_quarrel_74 : decode cX12_quarrel 74 = .ok (.iinc 4 1, 3) := by decide +kernel
theorem dX12_quarrel_77 : decode cX12_quarrel 77 = .ok (.goto (-29), 3) := by decide +kernel
theorem dX12_quarrel_80 : decode cX12_quarrel 80 = .ok (.iinc 3 1, 3) := by decide +kernel
theorem dX12_quarrel_83 : decode cX12_quarrel 83 = .ok (.goto (-48), 3) := by decide +kernel
theorem dX12_quarrel_86 : decode cX12_quarrel 86 = .ok (.iinc 2 1, 3) := by decide +kernel
theorem dX12_quarrel_89 : decode cX12_quarrel 89 = .ok (.goto (-62), 3) := by decide +kernel
theorem dX12_quarrel_92 : decode cX12_quarrel 92 = .ok (.iconst (-1), 1) := by decide +kernel
theorem dX12_quarrel_93 : decode cX12_quarrel 93 = .ok (.ireturn, 1) := by decide +kernel
theorem dX12_divisor_0 : decode cX12_divisor 0 = .ok (.iload_n 0, 1) := by decide +kernel
theorem dX12_divisor_1 : decode cX12_divisor 1 = .ok (.istore_n 2, 1) := by decide +kernel
theorem dX12_divisor_2 : decode cX12_divisor 2 = .ok (.iload_n 1, 1) := by decide +kernel
theorem dX12_divisor_3 : decode cX12_divisor 3 = .ok (.istore_n 3, 1) := by decide +kernel
theorem dX12_divisor_4 : decode cX12_divisor 4 = .ok (.iload_n 3, 1) := by decide +kernel
theorem dX12_divisor_5 : decode cX12_divisor 5 = .ok (.ifCond .eq 16, 3) := by decide +kernel
theorem dX12_divisor_8 : decode cX12_divisor 8 = .ok (.iload_n 2, 1) := by decide +kernel
theorem dX12_divisor_9 : decode cX12_divisor 9 = .ok (.iload_n 3, 1) := by decide +kernel
theorem dX12_divisor_10 : decode cX12_divisor 10 = .ok (.irem, 1) := by decide +kernel
theorem dX12_divisor_11 : decode cX12_divisor 11 = .ok (.istore 4, 2) := by decide +kernel
theorem dX12_divisor_13 : decode cX12_divisor 13 = .ok (.iload_n 3, 1) := by decide +kernel
theorem dX12_divisor_14 : decode cX12_divisor 14 = .ok (.istore_n 2, 1) := by decide +kernel
theorem dX12_divisor_15 : decode cX12_divisor 15 = .ok (.iload 4, 2) := by decide +kernel
theorem dX12_divisor_17 : decode cX12_divisor 17 = .ok (.istore_n 3, 1) := by decide +kernel
theorem dX12_divisor_18 : decode cX12_divisor 18 = .ok (.goto (-14), 3) := by decide +kernel
theorem dX12_divisor_21 : decode cX12_divisor 21 = .ok (.iload_n 2, 1) := by decide +kernel
theorem dX12_divisor_22 : decode cX12_divisor 22 = .ok (.ireturn, 1) := by decide +kernel
theorem dX12_tent_0 : decode cX12_tent 0 = .ok (.aload_n 0, 1) := by decide +kernel
theorem dX12_tent_1 : decode cX12_tent 1 = .ok (.iload_n 1, 1) := by decide +kernel
theorem dX12_tent_2 : decode cX12_tent 2 = .ok (.invokevirtual 141, 3) := by decide +kernel
theorem dX12_tent_5 : decode cX12_tent 5 = .ok (.ifCond .eq 15, 3) := by decide +kernel
theorem dX12_tent_8 : decode cX12_tent 8 = .ok (.iload_n 2, 1) := by decide +kernel
theorem dX12_tent_9 : decode cX12_tent 9 = .ok (.i2l, 1) := by decide +kernel
theorem dX12_tent_10 : decode cX12_tent 10 = .ok (.lconst 0, 1) := by decide +kernel
theorem dX12_tent_11 : decode cX12_tent 11 = .ok (.ldc2_w 350, 3) := by decide +kernel
theorem dX12_tent_14 : decode cX12_tent 14 = .ok (.invokestatic 106, 3) := by decide +kernel
theorem dX12_tent_17 : decode cX12_tent 17 = .ok (.ifCond .ne 8, 3) := by decide +kernel
theorem dX12_tent_20 : decode cX12_tent 20 = .ok (.aload_n 0, 1) := by decide +kernel
theorem dX12_tent_21 : decode cX12_tent 21 = .ok (.invokevirtual 117, 3) := by decide +kernel
theorem dX12_tent_24 : decode cX12_tent 24 = .ok (.ireturn, 1) := by decide +kernel
theorem dX12_tent_25 : decode cX12_tent 25 = .ok (.aload_n 0, 1) := by decide +kernel
theorem dX12_tent_26 : decode cX12_tent 26 = .ok (.iload_n 1, 1) := by decide +kernel
theorem dX12_tent_27 : decode cX12_tent 27 = .ok (.iconst 3, 1) := by decide +kernel
theorem dX12_tent_28 : decode cX12_tent 28 = .ok (.invokevirtual 147, 3) := by decide +kernel
theorem dX12_tent_31 : decode cX12_tent 31 = .ok (.aload_n 0, 1) := by decide +kernel
theorem dX12_tent_32 : decode cX12_tent 32 = .ok (.iload_n 1, 1) := by decide +kernel
theorem dX12_tent_33 : decode cX12_tent 33 = .ok (.iconst 2, 1) := by decide +kernel
theorem dX12_tent_34 : decode cX12_tent 34 = .ok (.invokevirtual 147, 3) := by decide +kernel
theorem dX12_tent_37 : decode cX12_tent 37 = .ok (.isub, 1) := by decide +kernel
theorem dX12_tent_38 : decode cX12_tent 38 = .ok (.aload_n 0, 1) := by decide +kernel
theorem dX12_tent_39 : decode cX12_tent 39 = .ok (.iload_n 1, 1) := by decide +kernel
theorem dX12_tent_40 : decode cX12_tent 40 = .ok (.iconst 1, 1) := by decide +kernel
theorem dX12_tent_41 : decode cX12_tent 41 = .ok (.invokevirtual 147, 3) := by decide +kernel
theorem dX12_tent_44 : decode cX12_tent 44 = .ok (.isub, 1) := by decide +kernel
theorem dX12_tent_45 : decode cX12_tent 45 = .ok (.istore_n 3, 1) := by decide +kernel
theorem dX12_tent_46 : decode cX12_tent 46 = .ok (.iload_n 3, 1) := by decide +kernel
theorem dX12_tent_47 : decode cX12_tent 47 = .ok (.ifCond .ge 7, 3) := by decide +kernel
theorem dX12_tent_50 : decode cX12_tent 50 = .ok (.iconst 0, 1) := by decide +kernel
theorem dX12_tent_51 : decode cX12_tent 51 = .ok (.goto 6, 3) := by decide +kernel
theorem dX12_tent_54 : decode cX12_tent 54 = .ok (.iload_n 2, 1) := by decide +kernel
theorem dX12_tent_55 : decode cX12_tent 55 = .ok (.iload_n 3, 1) := by decide +kernel
theorem dX12_tent_56 : decode cX12_tent 56 = .ok (.imul, 1) := by decide +kernel
theorem dX12_tent_57 : decode cX12_tent 57 = .ok (.istore 4, 2) := by decide +kernel
theorem dX12_tent_59 : decode cX12_tent 59 = .ok (.iload 4, 2) := by decide +kernel
theorem dX12_tent_61 : decode cX12_tent 61 = .ok (.bipush 10, 2) := by decide +kernel
theorem dX12_tent_63 : decode cX12_tent 63 = .ok (.invokestatic 352, 3) := by decide +kernel
theorem dX12_tent_66 : decode cX12_tent 66 = .ok (.istore 5, 2) := by decide +kernel
theorem dX12_tent_68 : decode cX12_tent 68 = .ok (.aload_n 0, 1) := by decide +kernel
theorem dX12_tent_69 : decode cX12_tent 69 = .ok (.iload 4, 2) := by decide +kernel
theorem dX12_tent_71 : decode cX12_tent 71 = .ok (.iload 5, 2) := by decide +kernel
theorem dX12_tent_73 : decode cX12_tent 73 = .ok (.idiv, 1) := by decide +kernel
theorem dX12_tent_74 : decode cX12_tent 74 = .ok (.putfield 355, 3) := by decide +kernel
theorem dX12_tent_77 : decode cX12_tent 77 = .ok (.aload_n 0, 1) := by decide +kernel
theorem dX12_tent_78 : decode cX12_tent 78 = .ok (.bipush 10, 2) := by decide +kernel
theorem dX12_tent_80 : decode cX12_tent 80 = .ok (.iload 5, 2) := by decide +kernel
theorem dX12_tent_82 : decode cX12_tent 82 = .ok (.idiv, 1) := by decide +kernel
theorem dX12_tent_83 : decode cX12_tent 83 = .ok (.putfield 92, 3) := by decide +kernel
theorem dX12_tent_86 : decode cX12_tent 86 = .ok (.iconst 1, 1) := by decide +kernel
theorem dX12_tent_87 : decode cX12_tent 87 = .ok (.ireturn, 1) := by decide +kernel
theorem dX12_part_0 : decode cX12_part 0 = .ok (.iload_n 1, 1) := by decide +kernel
theorem dX12_part_1 : decode cX12_part 1 = .ok (.ifCond .ne 10, 3) := by decide +kernel
theorem dX12_part_4 : decode cX12_part 4 = .ok (.aload_n 0, 1) := by decide +kernel
theorem dX12_part_5 : decode cX12_part 5 = .ok (.getfield 355, 3) := by decide +kernel
theorem dX12_part_8 : decode cX12_part 8 = .ok (.goto 19, 3) := by decide +kernel
theorem dX12_part_11 : decode cX12_part 11 = .ok (.iload_n 1, 1) := by decide +kernel
theorem dX12_part_12 : decode cX12_part 12 = .ok (.iconst 1, 1) := by decide +kernel
theorem dX12_part_13 : decode cX12_part 13 = .ok (.if_icmp .ne 10, 3) := by decide +kernel
theorem dX12_part_16 : decode cX12_part 16 = .ok (.aload_n 0, 1) := by decide +kernel
theorem dX12_part_17 : decode cX12_part 17 = .ok (.getfield 92, 3) := by decide +kernel
theorem dX12_part_20 : decode cX12_part 20 = .ok (.goto 7, 3) := by decide +kernel
theorem dX12_part_23 : decode cX12_part 23 = .ok (.aload_n 0, 1) := by decide +kernel
theorem dX12_part_24 : decode cX12_part 24 = .ok (.invokevirtual 117, 3) := by decide +kernel
theorem dX12_part_27 : decode cX12_part 27 = .ok (.ireturn, 1) := by decide +kernel
theorem dX12_image_0 : decode cX12_image 0 = .ok (.iload_n 1, 1) := by decide +kernel
theorem dX12_image_1 : decode cX12_image 1 = .ok (.i2l, 1) := by decide +kernel
theorem dX12_image_2 : decode cX12_image 2 = .ok (.lconst 0, 1) := by decide +kernel
theorem dX12_image_3 : decode cX12_image 3 = .ok (.lconst 1, 1) := by decide +kernel
theorem dX12_image_4 : decode cX12_image 4 = .ok (.invokestatic 106, 3) := by decide +kernel
theorem dX12_image_7 : decode cX12_image 7 = .ok (.ifCond .ne 8, 3) := by decide +kernel
theorem dX12_image_10 : decode cX12_image 10 = .ok (.aload_n 0, 1) := by decide +kernel
theorem dX12_image_11 : decode cX12_image 11 = .ok (.invokevirtual 117, 3) := by decide +kernel
theorem dX12_image_14 : decode cX12_image 14 = .ok (.ireturn, 1) := by decide +kernel
theorem dX12_image_15 : decode cX12_image 15 = .ok (.iconst 0, 1) := by decide +kernel
theorem dX12_image_16 : decode cX12_image 16 = .ok (.istore_n 2, 1) := by decide +kernel
theorem dX12_image_17 : decode cX12_image 17 = .ok (.iload_n 2, 1) := by decide +kernel
theorem dX12_image_18 : decode cX12_image 18 = .ok (.sipush 172, 3) := by decide +kernel
theorem dX12_image_21 : decode cX12_image 21 = .ok (.if_icmp .ge 27, 3) := by decide +kernel
theorem dX12_image_24 : decode cX12_image 24 = .ok (.aload_n 0, 1) := by decide +kernel
theorem dX12_image_25 : decode cX12_image 25 = .ok (.getfield 13, 3) := by decide +kernel
theorem dX12_image_28 : decode cX12_image 28 = .ok (.sipush 172, 3) := by decide +kernel
theorem dX12_image_31 : decode cX12_image 31 = .ok (.iload_n 1, 1) := by decide +kernel
theorem dX12_image_32 : decode cX12_image 32 = .ok (.imul, 1) := by decide +kernel
theorem dX12_image_33 : decode cX12_image 33 = .ok (.iload_n 2, 1) := by decide +kernel
theorem dX12_image_34 : decode cX12_image 34 = .ok (.iadd, 1) := by decide +kernel
theorem dX12_image_35 : decode cX12_image 35 = .ok (.aload_n 0, 1) := by decide +kernel
theorem dX12_image_36 : decode cX12_image 36 = .ok (.getfield 7, 3) := by decide +kernel
theorem dX12_image_39 : decode cX12_image 39 = .ok (.iload_n 2, 1) := by decide +kernel
theorem dX12_image_40 : decode cX12_image 40 = .ok (.iaload, 1) := by decide +kernel
theorem dX12_image_41 : decode cX12_image 41 = .ok (.iastore, 1) := by decide +kernel
theorem dX12_image_42 : decode cX12_image 42 = .ok (.iinc 2 1, 3) := by decide +kernel
theorem dX12_image_45 : decode cX12_image 45 = .ok (.goto (-28), 3) := by decide +kernel
theorem dX12_image_48 : decode cX12_image 48 = .ok (.aload_n 0, 1) := by decide +kernel
theorem dX12_image_49 : decode cX12_image 49 = .ok (.getfield 16, 3) := by decide +kernel
theorem dX12_image_52 : decode cX12_image 52 = .ok (.iload_n 1, 1) := by decide +kernel
theorem dX12_image_53 : decode cX12_image 53 = .ok (.iconst 1, 1) := by decide +kernel
theorem dX12_image_54 : decode cX12_image 54 = .ok (.bastore, 1) := by decide +kernel
theorem dX12_image_55 : decode cX12_image 55 = .ok (.iconst 1, 1) := by decide +kernel
theorem dX12_image_56 : decode cX12_image 56 = .ok (.ireturn, 1) := by decide +kernel
theorem dX12_from_0 : decode cX12_from 0 = .ok (.iload_n 1, 1) := by decide +kernel
theorem dX12_from_1 : decode cX12_from 1 = .ok (.i2l, 1) := by decide +kernel
theorem dX12_from_2 : decode cX12_from 2 = .ok (.lconst 0, 1) := by decide +kernel
theorem dX12_from_3 : decode cX12_from 3 = .ok (.lconst 1, 1) := by decide +kernel
theorem dX12_from_4 : decode cX12_from 4 = .ok (.invokestatic 106, 3) := by decide +kernel
theorem dX12_from_7 : decode cX12_from 7 = .ok (.ifCond .ne 8, 3) := by decide +kernel
theorem dX12_from_10 : decode cX12_from 10 = .ok (.aload_n 0, 1) := by decide +kernel
theorem dX12_from_11 : decode cX12_from 11 = .ok (.invokevirtual 117, 3) := by decide +kernel
theorem dX12_from_14 : decode cX12_from 14 = .ok (.ireturn, 1) := by decide +kernel
theorem dX12_from_15 : decode cX12_from 15 = .ok (.aload_n 0, 1) := by decide +kernel
theorem dX12_from_16 : decode cX12_from 16 = .ok (.getfield 16, 3) := by decide +kernel
theorem dX12_from_19 : decode cX12_from 19 = .ok (.iload_n 1, 1) := by decide +kernel
theorem dX12_from_20 : decode cX12_from 20 = .ok (.baload, 1) := by decide +kernel
theorem dX12_from_21 : decode cX12_from 21 = .ok (.ifCond .ne 8, 3) := by decide +kernel
theorem dX12_from_24 : decode cX12_from 24 = .ok (.aload_n 0, 1) := by decide +kernel
theorem dX12_from_25 : decode cX12_from 25 = .ok (.invokevirtual 124, 3) := by decide +kernel
theorem dX12_from_28 : decode cX12_from 28 = .ok (.ireturn, 1) := by decide +kernel
theorem dX12_from_29 : decode cX12_from 29 = .ok (.iconst 0, 1) := by decide +kernel
theorem dX12_from_30 : decode cX12_from 30 = .ok (.istore_n 2, 1) := by decide +kernel
theorem dX12_from_31 : decode cX12_from 31 = .ok (.iload_n 2, 1) := by decide +kernel
theorem dX12_from_32 : decode cX12_from 32 = .ok (.sipush 172, 3) := by decide +kernel
theorem dX12_from_35 : decode cX12_from 35 = .ok (.if_icmp .ge 27, 3) := by decide +kernel
theorem dX12_from_38 : decode cX12_from 38 = .ok (.aload_n 0, 1) := by decide +kernel
theorem dX12_from_39 : decode cX12_from 39 = .ok (.getfield 7, 3) := by decide +kernel
theorem dX12_from_42 : decode cX12_from 42 = .ok (.iload_n 2, 1) := by decide +kernel
theorem dX12_from_43 : decode cX12_from 43 = .ok (.aload_n 0, 1) := by decide +kernel
theorem dX12_from_44 : decode cX12_from 44 = .ok (.getfield 13, 3) := by decide +kernel
theorem dX12_from_47 : decode cX12_from 47 = .ok (.sipush 172, 3) := by decide +kernel
theorem dX12_from_50 : decode cX12_from 50 = .ok (.iload_n 1, 1) := by decide +kernel
theorem dX12_from_51 : decode cX12_from 51 = .ok (.imul, 1) := by decide +kernel
theorem dX12_from_52 : decode cX12_from 52 = .ok (.iload_n 2, 1) := by decide +kernel
theorem dX12_from_53 : decode cX12_from 53 = .ok (.iadd, 1) := by decide +kernel
theorem dX12_from_54 : decode cX12_from 54 = .ok (.iaload, 1) := by decide +kernel
theorem dX12_from_55 : decode cX12_from 55 = .ok (.iastore, 1) := by decide +kernel
theorem dX12_from_56 : decode cX12_from 56 = .ok (.iinc 2 1, 3) := by decide +kernel
theorem dX12_from_59 : decode cX12_from 59 = .ok (.goto (-28), 3) := by decide +kernel
theorem dX12_from_62 : decode cX12_from 62 = .ok (.iconst 1, 1) := by decide +kernel
theorem dX12_from_63 : decode cX12_from 63 = .ok (.ireturn, 1) := by decide +kernel
theorem dX12_status_0 : decode cX12_status 0 = .ok (.iload_n 1, 1) := by decide +kernel
theorem dX12_status_1 : decode cX12_status 1 = .ok (.i2l, 1) := by decide +kernel
theorem dX12_status_2 : decode cX12_status 2 = .ok (.lconst 0, 1) := by decide +kernel
theorem dX12_status_3 : decode cX12_status 3 = .ok (.ldc2_w 308, 3) := by decide +kernel
theorem dX12_status_6 : decode cX12_status 6 = .ok (.invokestatic 106, 3) := by decide +kernel
theorem dX12_status_9 : decode cX12_status 9 = .ok (.ifCond .eq 12, 3) := by decide +kernel
theorem dX12_status_12 : decode cX12_status 12 = .ok (.aload_n 0, 1) := by decide +kernel
theorem dX12_status_13 : decode cX12_status 13 = .ok (.getfield 23, 3) := by decide +kernel
theorem dX12_status_16 : decode cX12_status 16 = .ok (.iload_n 1, 1) := by decide +kernel
theorem dX12_status_17 : decode cX12_status 17 = .ok (.iaload, 1) := by decide +kernel
theorem dX12_status_18 : decode cX12_status 18 = .ok (.goto 9, 3) := by decide +kernel
theorem dX12_status_21 : decode cX12_status 21 = .ok (.aload_n 0, 1) := by decide +kernel
theorem dX12_status_22 : decode cX12_status 22 = .ok (.iconst 0, 1) := by decide +kernel
theorem dX12_status_23 : decode cX12_status 23 = .ok (.iconst (-1), 1) := by decide +kernel
theorem dX12_status_24 : decode cX12_status 24 = .ok (.invokevirtual 100, 3) := by decide +kernel
theorem dX12_status_27 : decode cX12_status 27 = .ok (.ireturn, 1) := by decide +kernel
theorem dX12_countOf_0 : decode cX12_countOf 0 = .ok (.iload_n 1, 1) := by decide +kernel
theorem dX12_countOf_1 : decode cX12_countOf 1 = .ok (.iconst 5, 1) := by decide +kernel
theorem dX12_countOf_2 : decode cX12_countOf 2 = .ok (.if_icmp .ge 12, 3) := by decide +kernel
theorem dX12_countOf_5 : decode cX12_countOf 5 = .ok (.aload_n 0, 1) := by decide +kernel
theorem dX12_countOf_6 : decode cX12_countOf 6 = .ok (.getfield 7, 3) := by decide +kernel
theorem dX12_countOf_9 : decode cX12_countOf 9 = .ok (.iload_n 1, 1) := by decide +kernel
theorem dX12_countOf_10 : decode cX12_countOf 10 = .ok (.iaload, 1) := by decide +kernel
theorem dX12_countOf_11 : decode cX12_countOf 11 = .ok (.goto 7, 3) := by decide +kernel
theorem dX12_countOf_14 : decode cX12_countOf 14 = .ok (.aload_n 0, 1) := by decide +kernel
theorem dX12_countOf_15 : decode cX12_countOf 15 = .ok (.getfield 154, 3) := by decide +kernel
theorem dX12_countOf_18 : decode cX12_countOf 18 = .ok (.ireturn, 1) := by decide +kernel
theorem dX12_count_0 : decode cX12_count 0 = .ok (.iload_n 1, 1) := by decide +kernel
theorem dX12_count_1 : decode cX12_count 1 = .ok (.i2l, 1) := by decide +kernel
theorem dX12_count_2 : decode cX12_count 2 = .ok (.lconst 0, 1) := by decide +kernel
theorem dX12_count_3 : decode cX12_count 3 = .ok (.ldc2_w 247, 3) := by decide +kernel
theorem dX12_count_6 : decode cX12_count 6 = .ok (.invokestatic 106, 3) := by decide +kernel
theorem dX12_count_9 : decode cX12_count 9 = .ok (.ifCond .eq 11, 3) := by decide +kernel
theorem dX12_count_12 : decode cX12_count 12 = .ok (.aload_n 0, 1) := by decide +kernel
theorem dX12_count_13 : decode cX12_count 13 = .ok (.iload_n 1, 1) := by decide +kernel
theorem dX12_count_14 : decode cX12_count 14 = .ok (.invokevirtual 358, 3) := by decide +kernel
theorem dX12_count_17 : decode cX12_count 17 = .ok (.goto 7, 3) := by decide +kernel
theorem dX12_count_20 : decode cX12_count 20 = .ok (.aload_n 0, 1) := by decide +kernel
theorem dX12_count_21 : decode cX12_count 21 = .ok (.invokevirtual 117, 3) := by decide +kernel
theorem dX12_count_24 : decode cX12_count 24 = .ok (.ireturn, 1) := by decide +kernel
theorem dX12_mixed_0 : decode cX12_mixed 0 = .ok (.lload_n 1, 1) := by decide +kernel
theorem dX12_mixed_1 : decode cX12_mixed 1 = .ok (.lstore 5, 2) := by decide +kernel
theorem dX12_mixed_3 : decode cX12_mixed 3 = .ok (.iconst 0, 1) := by decide +kernel
theorem dX12_mixed_4 : decode cX12_mixed 4 = .ok (.istore 7, 2) := by decide +kernel
theorem dX12_mixed_6 : decode cX12_mixed 6 = .ok (.iload 7, 2) := by decide +kernel
theorem dX12_mixed_8 : decode cX12_mixed 8 = .ok (.iload 4, 2) := by decide +kernel
theorem dX12_mixed_10 : decode cX12_mixed 10 = .ok (.if_icmp .ge 28, 3) := by decide +kernel
theorem dX12_mixed_13 : decode cX12_mixed 13 = .ok (.ldc2_w 361, 3) := by decide +kernel
theorem dX12_mixed_16 : decode cX12_mixed 16 = .ok (.lload 5, 2) := by decide +kernel
theorem dX12_mixed_18 : decode cX12_mixed 18 = .ok (.lmul, 1) := by decide +kernel
theorem dX12_mixed_19 : decode cX12_mixed 19 = .ok (.aload_n 0, 1) := by decide +kernel
theorem dX12_mixed_20 : decode cX12_mixed 20 = .ok (.getfield 7, 3) := by decide +kernel
theorem dX12_mixed_23 : decode cX12_mixed 23 = .ok (.iload_n 3, 1) := by decide +kernel
theorem dX12_mixed_24 : decode cX12_mixed 24 = .ok (.iload 7, 2) := by decide +kernel
theorem dX12_mixed_26 : decode cX12_mixed 26 = .ok (.iadd, 1) := by decide +kernel
theorem dX12_mixed_27 : decode cX12_mixed 27 = .ok (.iaload, 1) := by decide +kernel
theorem dX12_mixed_28 : decode cX12_mixed 28 = .ok (.i2l, 1) := by decide +kernel
theorem dX12_mixed_29 : decode cX12_mixed 29 = .ok (.ladd, 1) := by decide +kernel
theorem dX12_mixed_30 : decode cX12_mixed 30 = .ok (.lstore 5, 2) := by decide +kernel
theorem dX12_mixed_32 : decode cX12_mixed 32 = .ok (.iinc 7 1, 3) := by decide +kernel
theorem dX12_mixed_35 : decode cX12_mixed 35 = .ok (.goto (-29), 3) := by decide +kernel
theorem dX12_mixed_38 : decode cX12_mixed 38 = .ok (.lload 5, 2) := by decide +kernel
theorem dX12_mixed_40 : decode cX12_mixed 40 = .ok (.lreturn, 1) := by decide +kernel
theorem dX12_digest_0 : decode cX12_digest 0 = .ok (.ldc2_w 361, 3) := by decide +kernel
theorem dX12_digest_3 : decode cX12_digest 3 = .ok (.aload_n 0, 1) := by decide +kernel
theorem dX12_digest_4 : decode cX12_digest 4 = .ok (.ldc2_w 363, 3) := by decide +kernel
theorem dX12_digest_7 : decode cX12_digest 7 = .ok (.iconst 0, 1) := by decide +kernel
theorem dX12_digest_8 : decode cX12_digest 8 = .ok (.iconst 5, 1) := by decide +kernel
theorem dX12_digest_9 : decode cX12_digest 9 = .ok (.invokevirtual 365, 3) := by decide +kernel
theorem dX12_digest_12 : decode cX12_digest 12 = .ok (.lmul, 1) := by decide +kernel
theorem dX12_digest_13 : decode cX12_digest 13 = .ok (.aload_n 0, 1) := by decide +kernel
theorem dX12_digest_14 : decode cX12_digest 14 = .ok (.getfield 154, 3) := by decide +kernel
theorem dX12_digest_17 : decode cX12_digest 17 = .ok (.i2l, 1) := by decide +kernel
theorem dX12_digest_18 : decode cX12_digest 18 = .ok (.ladd, 1) := by decide +kernel
theorem dX12_digest_19 : decode cX12_digest 19 = .ok (.lstore_n 1, 1) := by decide +kernel
theorem dX12_digest_20 : decode cX12_digest 20 = .ok (.iconst 0, 1) := by decide +kernel
theorem dX12_digest_21 : decode cX12_digest 21 = .ok (.istore_n 3, 1) := by decide +kernel
theorem dX12_digest_22 : decode cX12_digest 22 = .ok (.iload_n 3, 1) := by decide +kernel
theorem dX12_digest_23 : decode cX12_digest 23 = .ok (.bipush 36, 2) := by decide +kernel
theorem dX12_digest_25 : decode cX12_digest 25 = .ok (.if_icmp .ge 41, 3) := by decide +kernel
theorem dX12_digest_28 : decode cX12_digest 28 = .ok (.ldc2_w 361, 3) := by decide +kernel
theorem dX12_digest_31 : decode cX12_digest 31 = .ok (.ldc2_w 361, 3) := by decide +kernel
theorem dX12_digest_34 : decode cX12_digest 34 = .ok (.lload_n 1, 1) := by decide +kernel
theorem dX12_digest_35 : decode cX12_digest 35 = .ok (.lmul, 1) := by decide +kernel
theorem dX12_digest_36 : decode cX12_digest 36 = .ok (.aload_n 0, 1) := by decide +kernel
theorem dX12_digest_37 : decode cX12_digest 37 = .ok (.getfield 7, 3) := by decide +kernel
theorem dX12_digest_40 : decode cX12_digest 40 = .ok (.bipush 10, 2) := by decide +kernel
theorem dX12_digest_42 : decode cX12_digest 42 = .ok (.iload_n 3, 1) := by decide +kernel
theorem dX12_digest_43 : decode cX12_digest 43 = .ok (.iadd, 1) := by decide +kernel
theorem dX12_digest_44 : decode cX12_digest 44 = .ok (.iaload, 1) := by decide +kernel
theorem dX12_digest_45 : decode cX12_digest 45 = .ok (.i2l, 1) := by decide +kernel
theorem dX12_digest_46 : decode cX12_digest 46 = .ok (.ladd, 1) := by decide +kernel
theorem dX12_digest_47 : decode cX12_digest 47 = .ok (.lmul, 1) := by decide +kernel
theorem dX12_digest_48 : decode cX12_digest 48 = .ok (.aload_n 0, 1) := by decide +kernel
theorem dX12_digest_49 : decode cX12_digest 49 = .ok (.getfield 7, 3) := by decide +kernel
theorem dX12_digest_52 : decode cX12_digest 52 = .ok (.bipush 46, 2) := by decide +kernel
theorem dX12_digest_54 : decode cX12_digest 54 = .ok (.iload_n 3, 1) := by decide +kernel
theorem dX12_digest_55 : decode cX12_digest 55 = .ok (.iadd, 1) := by decide +kernel
theorem dX12_digest_56 : decode cX12_digest 56 = .ok (.iaload, 1) := by decide +kernel
theorem dX12_digest_57 : decode cX12_digest 57 = .ok (.i2l, 1) := by decide +kernel
theorem dX12_digest_58 : decode cX12_digest 58 = .ok (.ladd, 1) := by decide +kernel
theorem dX12_digest_59 : decode cX12_digest 59 = .ok (.lstore_n 1, 1) := by decide +kernel
theorem dX12_digest_60 : decode cX12_digest 60 = .ok (.iinc 3 1, 3) := by decide +kernel
theorem dX12_digest_63 : decode cX12_digest 63 = .ok (.goto (-41), 3) := by decide +kernel
theorem dX12_digest_66 : decode cX12_digest 66 = .ok (.aload_n 0, 1) := by decide +kernel
theorem dX12_digest_67 : decode cX12_digest 67 = .ok (.lload_n 1, 1) := by decide +kernel
theorem dX12_digest_68 : decode cX12_digest 68 = .ok (.iconst 5, 1) := by decide +kernel
theorem dX12_digest_69 : decode cX12_digest 69 = .ok (.iconst 2, 1) := by decide +kernel
theorem dX12_digest_70 : decode cX12_digest 70 = .ok (.invokevirtual 365, 3) := by decide +kernel
theorem dX12_digest_73 : decode cX12_digest 73 = .ok (.lstore_n 1, 1) := by decide +kernel
theorem dX12_digest_74 : decode cX12_digest 74 = .ok (.aload_n 0, 1) := by decide +kernel
theorem dX12_digest_75 : decode cX12_digest 75 = .ok (.lload_n 1, 1) := by decide +kernel
theorem dX12_digest_76 : decode cX12_digest 76 = .ok (.bipush 82, 2) := by decide +kernel
theorem dX12_digest_78 : decode cX12_digest 78 = .ok (.aload_n 0, 1) := by decide +kernel
theorem dX12_digest_79 : decode cX12_digest 79 = .ok (.getfield 7, 3) := by decide +kernel
theorem dX12_digest_82 : decode cX12_digest 82 = .ok (.iconst 1, 1) := by decide +kernel
theorem dX12_digest_83 : decode cX12_digest 83 = .ok (.iaload, 1) := by decide +kernel
theorem dX12_digest_84 : decode cX12_digest 84 = .ok (.invokevirtual 365, 3) := by decide +kernel
theorem dX12_digest_87 : decode cX12_digest 87 = .ok (.lstore_n 1, 1) := by decide +kernel
theorem dX12_digest_88 : decode cX12_digest 88 = .ok (.aload_n 0, 1) := by decide +kernel
theorem dX12_digest_89 : decode cX12_digest 89 = .ok (.lload_n 1, 1) := by decide +kernel
theorem dX12_digest_90 : decode cX12_digest 90 = .ok (.bipush 90, 2) := by decide +kernel
theorem dX12_digest_92 : decode cX12_digest 92 = .ok (.bipush 6, 2) := by decide +kernel
theorem dX12_digest_94 : decode cX12_digest 94 = .ok (.aload_n 0, 1) := by decide +kernel
theorem dX12_digest_95 : decode cX12_digest 95 = .ok (.getfield 7, 3) := by decide +kernel
theorem dX12_digest_98 : decode cX12_digest 98 = .ok (.iconst 2, 1) := by decide +kernel
theorem dX12_digest_99 : decode cX12_digest 99 = .ok (.iaload, 1) := by decide +kernel
theorem dX12_digest_100 : decode cX12_digest 100 = .ok (.imul, 1) := by decide +kernel
theorem dX12_digest_101 : decode cX12_digest 101 = .ok (.invokevirtual 365, 3) := by decide +kernel
theorem dX12_digest_104 : decode cX12_digest 104 = .ok (.lstore_n 1, 1) := by decide +kernel
theorem dX12_digest_105 : decode cX12_digest 105 = .ok (.aload_n 0, 1) := by decide +kernel
theorem dX12_digest_106 : decode cX12_digest 106 = .ok (.lload_n 1, 1) := by decide +kernel
theorem dX12_digest_107 : decode cX12_digest 107 = .ok (.bipush 120, 2) := by decide +kernel
theorem dX12_digest_109 : decode cX12_digest 109 = .ok (.iconst 5, 1) := by decide +kernel
theorem dX12_digest_110 : decode cX12_digest 110 = .ok (.aload_n 0, 1) := by decide +kernel
theorem dX12_digest_111 : decode cX12_digest 111 = .ok (.getfield 7, 3) := by decide +kernel
theorem dX12_digest_114 : decode cX12_digest 114 = .ok (.iconst 3, 1) := by decide +kernel
theorem dX12_digest_115 : decode cX12_digest 115 = .ok (.iaload, 1) := by decide +kernel
theorem dX12_digest_116 : decode cX12_digest 116 = .ok (.imul, 1) := by decide +kernel
theorem dX12_digest_117 : decode cX12_digest 117 = .ok (.invokevirtual 365, 3) := by decide +kernel
theorem dX12_digest_120 : decode cX12_digest 120 = .ok (.lstore_n 1, 1) := by decide +kernel
theorem dX12_digest_121 : decode cX12_digest 121 = .ok (.aload_n 0, 1) := by decide +kernel
theorem dX12_digest_122 : decode cX12_digest 122 = .ok (.lload_n 1, 1) := by decide +kernel
theorem dX12_digest_123 : decode cX12_digest 123 = .ok (.sipush 160, 3) := by decide +kernel
theorem dX12_digest_126 : decode cX12_digest 126 = .ok (.iconst 3, 1) := by decide +kernel
theorem dX12_digest_127 : decode cX12_digest 127 = .ok (.aload_n 0, 1) := by decide +kernel
theorem dX12_digest_128 : decode cX12_digest 128 = .ok (.getfield 7, 3) := by decide +kernel
theorem dX12_digest_131 : decode cX12_digest 131 = .ok (.iconst 4, 1) := by decide +kernel
theorem dX12_digest_132 : decode cX12_digest 132 = .ok (.iaload, 1) := by decide +kernel
theorem dX12_digest_133 : decode cX12_digest 133 = .ok (.imul, 1) := by decide +kernel
theorem dX12_digest_134 : decode cX12_digest 134 = .ok (.invokevirtual 365, 3) := by decide +kernel
theorem dX12_digest_137 : decode cX12_digest 137 = .ok (.lstore_n 1, 1) := by decide +kernel
theorem dX12_digest_138 : decode cX12_digest 138 = .ok (.ldc2_w 361, 3) := by decide +kernel
theorem dX12_digest_141 : decode cX12_digest 141 = .ok (.ldc2_w 361, 3) := by decide +kernel
theorem dX12_digest_144 : decode cX12_digest 144 = .ok (.lload_n 1, 1) := by decide +kernel
theorem dX12_digest_145 : decode cX12_digest 145 = .ok (.lmul, 1) := by decide +kernel
theorem dX12_digest_146 : decode cX12_digest 146 = .ok (.aload_n 0, 1) := by decide +kernel
theorem dX12_digest_147 : decode cX12_digest 147 = .ok (.getfield 355, 3) := by decide +kernel
theorem dX12_digest_150 : decode cX12_digest 150 = .ok (.i2l, 1) := by decide +kernel
theorem dX12_digest_151 : decode cX12_digest 151 = .ok (.ladd, 1) := by decide +kernel
theorem dX12_digest_152 : decode cX12_digest 152 = .ok (.lmul, 1) := by decide +kernel
theorem dX12_digest_153 : decode cX12_digest 153 = .ok (.aload_n 0, 1) := by decide +kernel
theorem dX12_digest_154 : decode cX12_digest 154 = .ok (.getfield 92, 3) := by decide +kernel
theorem dX12_digest_157 : decode cX12_digest 157 = .ok (.i2l, 1) := by decide +kernel
theorem dX12_digest_158 : decode cX12_digest 158 = .ok (.ladd, 1) := by decide +kernel
theorem dX12_digest_159 : decode cX12_digest 159 = .ok (.lreturn, 1) := by decide +kernel
