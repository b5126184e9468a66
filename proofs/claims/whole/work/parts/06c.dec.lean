theorem dX10_init_0 : decode cX10_init 0 = .ok (.aload_n 0, 1) := by decide +kernel
theorem dX10_init_1 : decode cX10_init 1 = .ok (.invokespecial 1, 3) := by decide +kernel
theorem dX10_init_4 : decode cX10_init 4 = .ok (.aload_n 0, 1) := by decide +kernel
theorem dX10_init_5 : decode cX10_init 5 = .ok (.bipush 6, 2) := by decide +kernel
theorem dX10_init_7 : decode cX10_init 7 = .ok (.newarray .int, 2) := by decide +kernel
theorem dX10_init_9 : decode cX10_init 9 = .ok (.putfield 7, 3) := by decide +kernel
theorem dX10_init_12 : decode cX10_init 12 = .ok (.aload_n 0, 1) := by decide +kernel
theorem dX10_init_13 : decode cX10_init 13 = .ok (.lconst 1, 1) := by decide +kernel
theorem dX10_init_14 : decode cX10_init 14 = .ok (.putfield 13, 3) := by decide +kernel
theorem dX10_init_17 : decode cX10_init 17 = .ok (.aload_n 0, 1) := by decide +kernel
theorem dX10_init_18 : decode cX10_init 18 = .ok (.bipush 6, 2) := by decide +kernel
theorem dX10_init_20 : decode cX10_init 20 = .ok (.newarray .int, 2) := by decide +kernel
theorem dX10_init_22 : decode cX10_init 22 = .ok (.putfield 17, 3) := by decide +kernel
theorem dX10_init_25 : decode cX10_init 25 = .ok (.aload_n 0, 1) := by decide +kernel
theorem dX10_init_26 : decode cX10_init 26 = .ok (.sipush 240, 3) := by decide +kernel
theorem dX10_init_29 : decode cX10_init 29 = .ok (.newarray .int, 2) := by decide +kernel
theorem dX10_init_31 : decode cX10_init 31 = .ok (.putfield 20, 3) := by decide +kernel
theorem dX10_init_34 : decode cX10_init 34 = .ok (.aload_n 0, 1) := by decide +kernel
theorem dX10_init_35 : decode cX10_init 35 = .ok (.bipush 40, 2) := by decide +kernel
theorem dX10_init_37 : decode cX10_init 37 = .ok (.newarray .int, 2) := by decide +kernel
theorem dX10_init_39 : decode cX10_init 39 = .ok (.putfield 23, 3) := by decide +kernel
theorem dX10_init_42 : decode cX10_init 42 = .ok (.aload_n 0, 1) := by decide +kernel
theorem dX10_init_43 : decode cX10_init 43 = .ok (.iconst 4, 1) := by decide +kernel
theorem dX10_init_44 : decode cX10_init 44 = .ok (.newarray .int, 2) := by decide +kernel
theorem dX10_init_46 : decode cX10_init 46 = .ok (.putfield 26, 3) := by decide +kernel
theorem dX10_init_49 : decode cX10_init 49 = .ok (.aload_n 0, 1) := by decide +kernel
theorem dX10_init_50 : decode cX10_init 50 = .ok (.sipush 480, 3) := by decide +kernel
theorem dX10_init_53 : decode cX10_init 53 = .ok (.newarray .int, 2) := by decide +kernel
theorem dX10_init_55 : decode cX10_init 55 = .ok (.putfield 29, 3) := by decide +kernel
theorem dX10_init_58 : decode cX10_init 58 = .ok (.aload_n 0, 1) := by decide +kernel
theorem dX10_init_59 : decode cX10_init 59 = .ok (.iconst 3, 1) := by decide +kernel
theorem dX10_init_60 : decode cX10_init 60 = .ok (.newarray .int, 2) := by decide +kernel
theorem dX10_init_62 : decode cX10_init 62 = .ok (.putfield 32, 3) := by decide +kernel
theorem dX10_init_65 : decode cX10_init 65 = .ok (.aload_n 0, 1) := by decide +kernel
theorem dX10_init_66 : decode cX10_init 66 = .ok (.sipush 240, 3) := by decide +kernel
theorem dX10_init_69 : decode cX10_init 69 = .ok (.newarray .int, 2) := by decide +kernel
theorem dX10_init_71 : decode cX10_init 71 = .ok (.putfield 35, 3) := by decide +kernel
theorem dX10_init_74 : decode cX10_init 74 = .ok (.aload_n 0, 1) := by decide +kernel
theorem dX10_init_75 : decode cX10_init 75 = .ok (.bipush 36, 2) := by decide +kernel
theorem dX10_init_77 : decode cX10_init 77 = .ok (.newarray .int, 2) := by decide +kernel
theorem dX10_init_79 : decode cX10_init 79 = .ok (.putfield 38, 3) := by decide +kernel
theorem dX10_init_82 : decode cX10_init 82 = .ok (.aload_n 0, 1) := by decide +kernel
theorem dX10_init_83 : decode cX10_init 83 = .ok (.bipush 6, 2) := by decide +kernel
theorem dX10_init_85 : decode cX10_init 85 = .ok (.newarray .int, 2) := by decide +kernel
theorem dX10_init_87 : decode cX10_init 87 = .ok (.putfield 41, 3) := by decide +kernel
theorem dX10_init_90 : decode cX10_init 90 = .ok (.aload_n 0, 1) := by decide +kernel
theorem dX10_init_91 : decode cX10_init 91 = .ok (.bipush 6, 2) := by decide +kernel
theorem dX10_init_93 : decode cX10_init 93 = .ok (.newarray .int, 2) := by decide +kernel
theorem dX10_init_95 : decode cX10_init 95 = .ok (.putfield 44, 3) := by decide +kernel
theorem dX10_init_98 : decode cX10_init 98 = .ok (.aload_n 0, 1) := by decide +kernel
theorem dX10_init_99 : decode cX10_init 99 = .ok (.bipush 8, 2) := by decide +kernel
theorem dX10_init_101 : decode cX10_init 101 = .ok (.newarray .int, 2) := by decide +kernel
theorem dX10_init_103 : decode cX10_init 103 = .ok (.putfield 47, 3) := by decide +kernel
theorem dX10_init_106 : decode cX10_init 106 = .ok (.aload_n 0, 1) := by decide +kernel
theorem dX10_init_107 : decode cX10_init 107 = .ok (.bipush 8, 2) := by decide +kernel
theorem dX10_init_109 : decode cX10_init 109 = .ok (.newarray .int, 2) := by decide +kernel
theorem dX10_init_111 : decode cX10_init 111 = .ok (.putfield 50, 3) := by decide +kernel
theorem dX10_init_114 : decode cX10_init 114 = .ok (.aload_n 0, 1) := by decide +kernel
theorem dX10_init_115 : decode cX10_init 115 = .ok (.bipush 8, 2) := by decide +kernel
theorem dX10_init_117 : decode cX10_init 117 = .ok (.newarray .int, 2) := by decide +kernel
theorem dX10_init_119 : decode cX10_init 119 = .ok (.putfield 53, 3) := by decide +kernel
theorem dX10_init_122 : decode cX10_init 122 = .ok (.aload_n 0, 1) := by decide +kernel
theorem dX10_init_123 : decode cX10_init 123 = .ok (.bipush 8, 2) := by decide +kernel
theorem dX10_init_125 : decode cX10_init 125 = .ok (.newarray .long, 2) := by decide +kernel
theorem dX10_init_127 : decode cX10_init 127 = .ok (.putfield 56, 3) := by decide +kernel
theorem dX10_init_130 : decode cX10_init 130 = .ok (.aload_n 0, 1) := by decide +kernel
theorem dX10_init_131 : decode cX10_init 131 = .ok (.bipush 8, 2) := by decide +kernel
theorem dX10_init_133 : decode cX10_init 133 = .ok (.newarray .long, 2) := by decide +kernel
theorem dX10_init_135 : decode cX10_init 135 = .ok (.putfield 60, 3) := by decide +kernel
theorem dX10_init_138 : decode cX10_init 138 = .ok (.aload_n 0, 1) := by decide +kernel
theorem dX10_init_139 : decode cX10_init 139 = .ok (.bipush 8, 2) := by decide +kernel
theorem dX10_init_141 : decode cX10_init 141 = .ok (.newarray .long, 2) := by decide +kernel
theorem dX10_init_143 : decode cX10_init 143 = .ok (.putfield 63, 3) := by decide +kernel
theorem dX10_init_146 : decode cX10_init 146 = .ok (.aload_n 0, 1) := by decide +kernel
theorem dX10_init_147 : decode cX10_init 147 = .ok (.bipush 8, 2) := by decide +kernel
theorem dX10_init_149 : decode cX10_init 149 = .ok (.newarray .int, 2) := by decide +kernel
theorem dX10_init_151 : decode cX10_init 151 = .ok (.putfield 66, 3) := by decide +kernel
theorem dX10_init_154 : decode cX10_init 154 = .ok (.aload_n 0, 1) := by decide +kernel
theorem dX10_init_155 : decode cX10_init 155 = .ok (.bipush 8, 2) := by decide +kernel
theorem dX10_init_157 : decode cX10_init 157 = .ok (.newarray .int, 2) := by decide +kernel
theorem dX10_init_159 : decode cX10_init 159 = .ok (.putfield 69, 3) := by decide +kernel
theorem dX10_init_162 : decode cX10_init 162 = .ok (.aload_n 0, 1) := by decide +kernel
theorem dX10_init_163 : decode cX10_init 163 = .ok (.bipush 6, 2) := by decide +kernel
theorem dX10_init_165 : decode cX10_init 165 = .ok (.newarray .int, 2) := by decide +kernel
theorem dX10_init_167 : decode cX10_init 167 = .ok (.putfield 72, 3) := by decide +kernel
theorem dX10_init_170 : decode cX10_init 170 = .ok (.aload_n 0, 1) := by decide +kernel
theorem dX10_init_171 : decode cX10_init 171 = .ok (.bipush 6, 2) := by decide +kernel
theorem dX10_init_173 : decode cX10_init 173 = .ok (.newarray .int, 2) := by decide +kernel
theorem dX10_init_175 : decode cX10_init 175 = .ok (.putfield 75, 3) := by decide +kernel
theorem dX10_init_178 : decode cX10_init 178 = .ok (.aload_n 0, 1) := by decide +kernel
theorem dX10_init_179 : decode cX10_init 179 = .ok (.sipush 144, 3) := by decide +kernel
theorem dX10_init_182 : decode cX10_init 182 = .ok (.newarray .int, 2) := by decide +kernel
theorem dX10_init_184 : decode cX10_init 184 = .ok (.putfield 78, 3) := by decide +kernel
theorem dX10_init_187 : decode cX10_init 187 = .ok (.iconst 0, 1) := by decide +kernel
theorem dX10_init_188 : decode cX10_init 188 = .ok (.istore_n 1, 1) := by decide +kernel
theorem dX10_init_189 : decode cX10_init 189 = .ok (.iload_n 1, 1) := by decide +kernel
theorem dX10_init_190 : decode cX10_init 190 = .ok (.bipush 6, 2) := by decide +kernel
theorem dX10_init_192 : decode cX10_init 192 = .ok (.if_icmp .ge 17, 3) := by decide +kernel
theorem dX10_init_195 : decode cX10_init 195 = .ok (.aload_n 0, 1) := by decide +kernel
theorem dX10_init_196 : decode cX10_init 196 = .ok (.getfield 17, 3) := by decide +kernel
theorem dX10_init_199 : decode cX10_init 199 = .ok (.iload_n 1, 1) := by decide +kernel
theorem dX10_init_200 : decode cX10_init 200 = .ok (.bipush (-9), 2) := by decide +kernel
theorem dX10_init_202 : decode cX10_init 202 = .ok (.iastore, 1) := by decide +kernel
theorem dX10_init_203 : decode cX10_init 203 = .ok (.iinc 1 1, 3) := by decide +kernel
theorem dX10_init_206 : decode cX10_init 206 = .ok (.goto (-17), 3) := by decide +kernel
theorem dX10_init_209 : decode cX10_init 209 = .ok (.iconst 0, 1) := by decide +kernel
theorem dX10_init_210 : decode cX10_init 210 = .ok (.istore_n 1, 1) := by decide +kernel
theorem dX10_init_211 : decode cX10_init 211 = .ok (.iload_n 1, 1) := by decide +kernel
theorem dX10_init_212 : decode cX10_init 212 = .ok (.iconst 4, 1) := by decide +kernel
theorem dX10_init_213 : decode cX10_init 213 = .ok (.if_icmp .ge 17, 3) := by decide +kernel
theorem dX10_init_216 : decode cX10_init 216 = .ok (.aload_n 0, 1) := by decide +kernel
theorem dX10_init_217 : decode cX10_init 217 = .ok (.getfield 26, 3) := by decide +kernel
theorem dX10_init_220 : decode cX10_init 220 = .ok (.iload_n 1, 1) := by decide +kernel
theorem dX10_init_221 : decode cX10_init 221 = .ok (.bipush (-9), 2) := by decide +kernel
theorem dX10_init_223 : decode cX10_init 223 = .ok (.iastore, 1) := by decide +kernel
theorem dX10_init_224 : decode cX10_init 224 = .ok (.iinc 1 1, 3) := by decide +kernel
theorem dX10_init_227 : decode cX10_init 227 = .ok (.goto (-16), 3) := by decide +kernel
theorem dX10_init_230 : decode cX10_init 230 = .ok (.return_, 1) := by decide +kernel
theorem dX10_in_0 : decode cX10_in 0 = .ok (.iload_n 0, 1) := by decide +kernel
theorem dX10_in_1 : decode cX10_in 1 = .ok (.iload_n 1, 1) := by decide +kernel
theorem dX10_in_2 : decode cX10_in 2 = .ok (.if_icmp .lt 12, 3) := by decide +kernel
theorem dX10_in_5 : decode cX10_in 5 = .ok (.iload_n 0, 1) := by decide +kernel
theorem dX10_in_6 : decode cX10_in 6 = .ok (.iload_n 2, 1) := by decide +kernel
theorem dX10_in_7 : decode cX10_in 7 = .ok (.if_icmp .gt 7, 3) := by decide +kernel
theorem dX10_in_10 : decode cX10_in 10 = .ok (.iconst 1, 1) := by decide +kernel
theorem dX10_in_11 : decode cX10_in 11 = .ok (.goto 4, 3) := by decide +kernel
theorem dX10_in_14 : decode cX10_in 14 = .ok (.iconst 0, 1) := by decide +kernel
theorem dX10_in_15 : decode cX10_in 15 = .ok (.ireturn, 1) := by decide +kernel
theorem dX10_meets_0 : decode cX10_meets 0 = .ok (.aload_n 0, 1) := by decide +kernel
theorem dX10_meets_1 : decode cX10_meets 1 = .ok (.iload_n 1, 1) := by decide +kernel
theorem dX10_meets_2 : decode cX10_meets 2 = .ok (.putfield 81, 3) := by decide +kernel
theorem dX10_meets_5 : decode cX10_meets 5 = .ok (.aload_n 0, 1) := by decide +kernel
theorem dX10_meets_6 : decode cX10_meets 6 = .ok (.getfield 7, 3) := by decide +kernel
theorem dX10_meets_9 : decode cX10_meets 9 = .ok (.iload_n 1, 1) := by decide +kernel
theorem dX10_meets_10 : decode cX10_meets 10 = .ok (.dup2, 1) := by decide +kernel
theorem dX10_meets_11 : decode cX10_meets 11 = .ok (.iaload, 1) := by decide +kernel
theorem dX10_meets_12 : decode cX10_meets 12 = .ok (.iconst 1, 1) := by decide +kernel
theorem dX10_meets_13 : decode cX10_meets 13 = .ok (.iadd, 1) := by decide +kernel
theorem dX10_meets_14 : decode cX10_meets 14 = .ok (.iastore, 1) := by decide +kernel
theorem dX10_meets_15 : decode cX10_meets 15 = .ok (.bipush (-3), 2) := by decide +kernel
theorem dX10_meets_17 : decode cX10_meets 17 = .ok (.ireturn, 1) := by decide +kernel
theorem dX10_ask_0 : decode cX10_ask 0 = .ok (.aload_n 0, 1) := by decide +kernel
theorem dX10_ask_1 : decode cX10_ask 1 = .ok (.iload_n 1, 1) := by decide +kernel
theorem dX10_ask_2 : decode cX10_ask 2 = .ok (.putfield 85, 3) := by decide +kernel
theorem dX10_ask_5 : decode cX10_ask 5 = .ok (.iload_n 2, 1) := by decide +kernel
theorem dX10_ask_6 : decode cX10_ask 6 = .ok (.ireturn, 1) := by decide +kernel
theorem dX10_part_0 : decode cX10_part 0 = .ok (.lload_n 1, 1) := by decide +kernel
theorem dX10_part_1 : decode cX10_part 1 = .ok (.lstore 6, 2) := by decide +kernel
theorem dX10_part_3 : decode cX10_part 3 = .ok (.lload_n 3, 1) := by decide +kernel
theorem dX10_part_4 : decode cX10_part 4 = .ok (.lstore 8, 2) := by decide +kernel
theorem dX10_part_6 : decode cX10_part 6 = .ok (.lload 8, 2) := by decide +kernel
theorem dX10_part_8 : decode cX10_part 8 = .ok (.lconst 0, 1) := by decide +kernel
theorem dX10_part_9 : decode cX10_part 9 = .ok (.lcmp, 1) := by decide +kernel
theorem dX10_part_10 : decode cX10_part 10 = .ok (.ifCond .eq 21, 3) := by decide +kernel
theorem dX10_part_13 : decode cX10_part 13 = .ok (.lload 6, 2) := by decide +kernel
theorem dX10_part_15 : decode cX10_part 15 = .ok (.lload 8, 2) := by decide +kernel
theorem dX10_part_17 : decode cX10_part 17 = .ok (.lrem, 1) := by decide +kernel
theorem dX10_part_18 : decode cX10_part 18 = .ok (.lstore 10, 2) := by decide +kernel
theorem dX10_part_20 : decode cX10_part 20 = .ok (.lload 8, 2) := by decide +kernel
theorem dX10_part_22 : decode cX10_part 22 = .ok (.lstore 6, 2) := by decide +kernel
theorem dX10_part_24 : decode cX10_part 24 = .ok (.lload 10, 2) := by decide +kernel
theorem dX10_part_26 : decode cX10_part 26 = .ok (.lstore 8, 2) := by decide +kernel
theorem dX10_part_28 : decode cX10_part 28 = .ok (.goto (-22), 3) := by decide +kernel
theorem dX10_part_31 : decode cX10_part 31 = .ok (.aload_n 0, 1) := by decide +kernel
theorem dX10_part_32 : decode cX10_part 32 = .ok (.lload_n 1, 1) := by decide +kernel
theorem dX10_part_33 : decode cX10_part 33 = .ok (.lload 6, 2) := by decide +kernel
theorem dX10_part_35 : decode cX10_part 35 = .ok (.ldiv, 1) := by decide +kernel
theorem dX10_part_36 : decode cX10_part 36 = .ok (.putfield 88, 3) := by decide +kernel
theorem dX10_part_39 : decode cX10_part 39 = .ok (.aload_n 0, 1) := by decide +kernel
theorem dX10_part_40 : decode cX10_part 40 = .ok (.lload_n 3, 1) := by decide +kernel
theorem dX10_part_41 : decode cX10_part 41 = .ok (.lload 6, 2) := by decide +kernel
theorem dX10_part_43 : decode cX10_part 43 = .ok (.ldiv, 1) := by decide +kernel
theorem dX10_part_44 : decode cX10_part 44 = .ok (.putfield 13, 3) := by decide +kernel
theorem dX10_part_47 : decode cX10_part 47 = .ok (.iload 5, 2) := by decide +kernel
theorem dX10_part_49 : decode cX10_part 49 = .ok (.ireturn, 1) := by decide +kernel
theorem dX10_isRow_0 : decode cX10_isRow 0 = .ok (.iload_n 0, 1) := by decide +kernel
theorem dX10_isRow_1 : decode cX10_isRow 1 = .ok (.iconst 0, 1) := by decide +kernel
theorem dX10_isRow_2 : decode cX10_isRow 2 = .ok (.iconst 5, 1) := by decide +kernel
theorem dX10_isRow_3 : decode cX10_isRow 3 = .ok (.invokestatic 91, 3) := by decide +kernel
theorem dX10_isRow_6 : decode cX10_isRow 6 = .ok (.ireturn, 1) := by decide +kernel
theorem dX10_isText_0 : decode cX10_isText 0 = .ok (.iload_n 0, 1) := by decide +kernel
theorem dX10_isText_1 : decode cX10_isText 1 = .ok (.iconst 0, 1) := by decide +kernel
theorem dX10_isText_2 : decode cX10_isText 2 = .ok (.iconst 3, 1) := by decide +kernel
theorem dX10_isText_3 : decode cX10_isText 3 = .ok (.invokestatic 91, 3) := by decide +kernel
theorem dX10_isText_6 : decode cX10_isText 6 = .ok (.ireturn, 1) := by decide +kernel
theorem dX10_askedRow_0 : decode cX10_askedRow 0 = .ok (.iload_n 1, 1) := by decide +kernel
theorem dX10_askedRow_1 : decode cX10_askedRow 1 = .ok (.invokestatic 95, 3) := by decide +kernel
theorem dX10_askedRow_4 : decode cX10_askedRow 4 = .ok (.ifCond .ne 7, 3) := by decide +kernel
theorem dX10_askedRow_7 : decode cX10_askedRow 7 = .ok (.iconst (-1), 1) := by decide +kernel
theorem dX10_askedRow_8 : decode cX10_askedRow 8 = .ok (.goto 21, 3) := by decide +kernel
theorem dX10_askedRow_11 : decode cX10_askedRow 11 = .ok (.aload_n 0, 1) := by decide +kernel
theorem dX10_askedRow_12 : decode cX10_askedRow 12 = .ok (.getfield 17, 3) := by decide +kernel
theorem dX10_askedRow_15 : decode cX10_askedRow 15 = .ok (.iload_n 1, 1) := by decide +kernel
theorem dX10_askedRow_16 : decode cX10_askedRow 16 = .ok (.iaload, 1) := by decide +kernel
theorem dX10_askedRow_17 : decode cX10_askedRow 17 = .ok (.ifCond .ge 11, 3) := by decide +kernel
theorem dX10_askedRow_20 : decode cX10_askedRow 20 = .ok (.aload_n 0, 1) := by decide +kernel
theorem dX10_askedRow_21 : decode cX10_askedRow 21 = .ok (.iconst 1, 1) := by decide +kernel
theorem dX10_askedRow_22 : decode cX10_askedRow 22 = .ok (.invokevirtual 99, 3) := by decide +kernel
theorem dX10_askedRow_25 : decode cX10_askedRow 25 = .ok (.goto 4, 3) := by decide +kernel
theorem dX10_askedRow_28 : decode cX10_askedRow 28 = .ok (.iconst 0, 1) := by decide +kernel
theorem dX10_askedRow_29 : decode cX10_askedRow 29 = .ok (.ireturn, 1) := by decide +kernel
theorem dX10_askedText_0 : decode cX10_askedText 0 = .ok (.iload_n 1, 1) := by decide +kernel
theorem dX10_askedText_1 : decode cX10_askedText 1 = .ok (.invokestatic 103, 3) := by decide +kernel
theorem dX10_askedText_4 : decode cX10_askedText 4 = .ok (.ifCond .ne 7, 3) := by decide +kernel
theorem dX10_askedText_7 : decode cX10_askedText 7 = .ok (.iconst (-1), 1) := by decide +kernel
theorem dX10_askedText_8 : decode cX10_askedText 8 = .ok (.goto 21, 3) := by decide +kernel
theorem dX10_askedText_11 : decode cX10_askedText 11 = .ok (.aload_n 0, 1) := by decide +kernel
theorem dX10_askedText_12 : decode cX10_askedText 12 = .ok (.getfield 26, 3) := by decide +kernel
theorem dX10_askedText_15 : decode cX10_askedText 15 = .ok (.iload_n 1, 1) := by decide +kernel
theorem dX10_askedText_16 : decode cX10_askedText 16 = .ok (.iaload, 1) := by decide +kernel
theorem dX10_askedText_17 : decode cX10_askedText 17 = .ok (.ifCond .ge 11, 3) := by decide +kernel
theorem dX10_askedText_20 : decode cX10_askedText 20 = .ok (.aload_n 0, 1) := by decide +kernel
theorem dX10_askedText_21 : decode cX10_askedText 21 = .ok (.iconst 1, 1) := by decide +kernel
theorem dX10_askedText_22 : decode cX10_askedText 22 = .ok (.invokevirtual 99, 3) := by decide +kernel
theorem dX10_askedText_25 : decode cX10_askedText 25 = .ok (.goto 4, 3) := by decide +kernel
theorem dX10_askedText_28 : decode cX10_askedText 28 = .ok (.iconst 0, 1) := by decide +kernel
theorem dX10_askedText_29 : decode cX10_askedText 29 = .ok (.ireturn, 1) := by decide +kernel
theorem dX10_rowAt_0 : decode cX10_rowAt 0 = .ok (.aload_n 0, 1) := by decide +kernel
theorem dX10_rowAt_1 : decode cX10_rowAt 1 = .ok (.getfield 20, 3) := by decide +kernel
theorem dX10_rowAt_4 : decode cX10_rowAt 4 = .ok (.bipush 40, 2) := by decide +kernel
theorem dX10_rowAt_6 : decode cX10_rowAt 6 = .ok (.iload_n 1, 1) := by decide +kernel
theorem dX10_rowAt_7 : decode cX10_rowAt 7 = .ok (.imul, 1) := by decide +kernel
theorem dX10_rowAt_8 : decode cX10_rowAt 8 = .ok (.iload_n 2, 1) := by decide +kernel
theorem dX10_rowAt_9 : decode cX10_rowAt 9 = .ok (.iadd, 1) := by decide +kernel
theorem dX10_rowAt_10 : decode cX10_rowAt 10 = .ok (.iaload, 1) := by decide +kernel
theorem dX10_rowAt_11 : decode cX10_rowAt 11 = .ok (.ireturn, 1) := by decide +kernel
theorem dX10_setRow_0 : decode cX10_setRow 0 = .ok (.aload_n 0, 1) := by decide +kernel
theorem dX10_setRow_1 : decode cX10_setRow 1 = .ok (.getfield 20, 3) := by decide +kernel
theorem dX10_setRow_4 : decode cX10_setRow 4 = .ok (.bipush 40, 2) := by decide +kernel
theorem dX10_setRow_6 : decode cX10_setRow 6 = .ok (.iload_n 1, 1) := by decide +kernel
theorem dX10_setRow_7 : decode cX10_setRow 7 = .ok (.imul, 1) := by decide +kernel
theorem dX10_setRow_8 : decode cX10_setRow 8 = .ok (.iload_n 2, 1) := by decide +kernel
theorem dX10_setRow_9 : decode cX10_setRow 9 = .ok (.iadd, 1) := by decide +kernel
theorem dX10_setRow_10 : decode cX10_setRow 10 = .ok (.iload_n 3, 1) := by decide +kernel
theorem dX10_setRow_11 : decode cX10_setRow 11 = .ok (.iastore, 1) := by decide +kernel
theorem dX10_setRow_12 : decode cX10_setRow 12 = .ok (.return_, 1) := by decide +kernel
theorem dX10_row_0 : decode cX10_row 0 = .ok (.iload_n 1, 1) := by decide +kernel
theorem dX10_row_1 : decode cX10_row 1 = .ok (.invokestatic 95, 3) := by decide +kernel
theorem dX10_row_4 : decode cX10_row 4 = .ok (.ifCond .eq 9, 3) := by decide +kernel
theorem dX10_row_7 : decode cX10_row 7 = .ok (.iload_n 2, 1) := by decide +kernel
theorem dX10_row_8 : decode cX10_row 8 = .ok (.bipush 40, 2) := by decide +kernel
theorem dX10_row_10 : decode cX10_row 10 = .ok (.if_icmp .le 5, 3) := by decide +kernel
theorem dX10_row_13 : decode cX10_row 13 = .ok (.iconst (-1), 1) := by decide +kernel
theorem dX10_row_14 : decode cX10_row 14 = .ok (.ireturn, 1) := by decide +kernel
theorem dX10_row_15 : decode cX10_row 15 = .ok (.iload_n 2, 1) := by decide +kernel
theorem dX10_row_16 : decode cX10_row 16 = .ok (.ifCond .ge 9, 3) := by decide +kernel
theorem dX10_row_19 : decode cX10_row 19 = .ok (.aload_n 0, 1) := by decide +kernel
theorem dX10_row_20 : decode cX10_row 20 = .ok (.iconst 5, 1) := by decide +kernel
theorem dX10_row_21 : decode cX10_row 21 = .ok (.invokevirtual 99, 3) := by decide +kernel
theorem dX10_row_24 : decode cX10_row 24 = .ok (.ireturn, 1) := by decide +kernel
theorem dX10_row_25 : decode cX10_row 25 = .ok (.aload_n 0, 1) := by decide +kernel
theorem dX10_row_26 : decode cX10_row 26 = .ok (.getfield 17, 3) := by decide +kernel
theorem dX10_row_29 : decode cX10_row 29 = .ok (.iload_n 1, 1) := by decide +kernel
theorem dX10_row_30 : decode cX10_row 30 = .ok (.iload_n 2, 1) := by decide +kernel
theorem dX10_row_31 : decode cX10_row 31 = .ok (.iastore, 1) := by decide +kernel
theorem dX10_row_32 : decode cX10_row 32 = .ok (.iconst 0, 1) := by decide +kernel
theorem dX10_row_33 : decode cX10_row 33 = .ok (.istore_n 3, 1) := by decide +kernel
theorem dX10_row_34 : decode cX10_row 34 = .ok (.iload_n 3, 1) := by decide +kernel
theorem dX10_row_35 : decode cX10_row 35 = .ok (.bipush 40, 2) := by decide +kernel
theorem dX10_row_37 : decode cX10_row 37 = .ok (.if_icmp .ge 16, 3) := by decide +kernel
theorem dX10_row_40 : decode cX10_row 40 = .ok (.aload_n 0, 1) := by decide +kernel
theorem dX10_row_41 : decode cX10_row 41 = .ok (.iload_n 1, 1) := by decide +kernel
theorem dX10_row_42 : decode cX10_row 42 = .ok (.iload_n 3, 1) := by decide +kernel
theorem dX10_row_43 : decode cX10_row 43 = .ok (.iconst 0, 1) := by decide +kernel
theorem dX10_row_44 : decode cX10_row 44 = .ok (.invokevirtual 106, 3) := by decide +kernel
theorem dX10_row_47 : decode cX10_row 47 = .ok (.iinc 3 1, 3) := by decide +kernel
theorem dX10_row_50 : decode cX10_row 50 = .ok (.goto (-16), 3) := by decide +kernel
theorem dX10_row_53 : decode cX10_row 53 = .ok (.iload_n 2, 1) := by decide +kernel
theorem dX10_row_54 : decode cX10_row 54 = .ok (.ireturn, 1) := by decide +kernel
theorem dX10_at_0 : decode cX10_at 0 = .ok (.aload_n 0, 1) := by decide +kernel
theorem dX10_at_1 : decode cX10_at 1 = .ok (.iload_n 1, 1) := by decide +kernel
theorem dX10_at_2 : decode cX10_at 2 = .ok (.invokevirtual 110, 3) := by decide +kernel
theorem dX10_at_5 : decode cX10_at 5 = .ok (.istore_n 3, 1) := by decide +kernel
theorem dX10_at_6 : decode cX10_at 6 = .ok (.iload_n 3, 1) := by decide +kernel
theorem dX10_at_7 : decode cX10_at 7 = .ok (.ifCond .ge 5, 3) := by decide +kernel
theorem dX10_at_10 : decode cX10_at 10 = .ok (.iload_n 3, 1) := by decide +kernel
theorem dX10_at_11 : decode cX10_at 11 = .ok (.ireturn, 1) := by decide +kernel
theorem dX10_at_12 : decode cX10_at 12 = .ok (.iload_n 2, 1) := by decide +kernel
theorem dX10_at_13 : decode cX10_at 13 = .ok (.iconst 0, 1) := by decide +kernel
theorem dX10_at_14 : decode cX10_at 14 = .ok (.aload_n 0, 1) := by decide +kernel
theorem dX10_at_15 : decode cX10_at 15 = .ok (.getfield 17, 3) := by decide +kernel
theorem dX10_at_18 : decode cX10_at 18 = .ok (.iload_n 1, 1) := by decide +kernel
theorem dX10_at_19 : decode cX10_at 19 = .ok (.iaload, 1) := by decide +kernel
theorem dX10_at_20 : decode cX10_at 20 = .ok (.iconst 1, 1) := by decide +kernel
theorem dX10_at_21 : decode cX10_at 21 = .ok (.isub, 1) := by decide +kernel
theorem dX10_at_22 : decode cX10_at 22 = .ok (.invokestatic 91, 3) := by decide +kernel
theorem dX10_at_25 : decode cX10_at 25 = .ok (.ifCond .eq 17, 3) := by decide +kernel
theorem dX10_at_28 : decode cX10_at 28 = .ok (.aload_n 0, 1) := by decide +kernel
theorem dX10_at_29 : decode cX10_at 29 = .ok (.aload_n 0, 1) := by decide +kernel
theorem dX10_at_30 : decode cX10_at 30 = .ok (.iload_n 1, 1) := by decide +kernel
theorem dX10_at_31 : decode cX10_at 31 = .ok (.iload_n 2, 1) := by decide +kernel
theorem dX10_at_32 : decode cX10_at 32 = .ok (.invokevirtual 113, 3) := by decide +kernel
theorem dX10_at_35 : decode cX10_at 35 = .ok (.iconst 1, 1) := by decide +kernel
theorem dX10_at_36 : decode cX10_at 36 = .ok (.invokevirtual 117, 3) := by decide +kernel
theorem dX10_at_39 : decode cX10_at 39 = .ok (.goto 8, 3) := by decide +kernel
theorem dX10_at_42 : decode cX10_at 42 = .ok (.aload_n 0, 1) := by decide +kernel
theorem dX10_at_43 : decode cX10_at 43 = .ok (.iconst 2, 1) := by decide +kernel
theorem dX10_at_44 : decode cX10_at 44 = .ok (.invokevirtual 99, 3) := by decide +kernel
theorem dX10_at_47 : decode cX10_at 47 = .ok (.ireturn, 1) := by decide +kernel
theorem dX10_lay_0 : decode cX10_lay 0 = .ok (.aload_n 0, 1) := by decide +kernel
theorem dX10_lay_1 : decode cX10_lay 1 = .ok (.iload_n 1, 1) := by decide +kernel
theorem dX10_lay_2 : decode cX10_lay 2 = .ok (.iload_n 2, 1) := by decide +kernel
theorem dX10_lay_3 : decode cX10_lay 3 = .ok (.invokevirtual 120, 3) := by decide +kernel
theorem dX10_lay_6 : decode cX10_lay 6 = .ok (.istore 4, 2) := by decide +kernel
theorem dX10_lay_8 : decode cX10_lay 8 = .ok (.iload 4, 2) := by decide +kernel
theorem dX10_lay_10 : decode cX10_lay 10 = .ok (.ifCond .ge 6, 3) := by decide +kernel
theorem dX10_lay_13 : decode cX10_lay 13 = .ok (.iload 4, 2) := by decide +kernel
theorem dX10_lay_15 : decode cX10_lay 15 = .ok (.ireturn, 1) := by decide +kernel
theorem dX10_lay_16 : decode cX10_lay 16 = .ok (.aload_n 0, 1) := by decide +kernel
theorem dX10_lay_17 : decode cX10_lay 17 = .ok (.iload_n 1, 1) := by decide +kernel
theorem dX10_lay_18 : decode cX10_lay 18 = .ok (.iload_n 2, 1) := by decide +kernel
theorem dX10_lay_19 : decode cX10_lay 19 = .ok (.iload_n 3, 1) := by decide +kernel
theorem dX10_lay_20 : decode cX10_lay 20 = .ok (.invokevirtual 106, 3) := by decide +kernel
theorem dX10_lay_23 : decode cX10_lay 23 = .ok (.iconst 1, 1) := by decide +kernel
theorem dX10_lay_24 : decode cX10_lay 24 = .ok (.ireturn, 1) := by decide +kernel
theorem dX10_tear_0 : decode cX10_tear 0 = .ok (.aload_n 0, 1) := by decide +kernel
theorem dX10_tear_1 : decode cX10_tear 1 = .ok (.iload_n 1, 1) := by decide +kernel
theorem dX10_tear_2 : decode cX10_tear 2 = .ok (.invokevirtual 110, 3) := by decide +kernel
theorem dX10_tear_5 : decode cX10_tear 5 = .ok (.istore_n 2, 1) := by decide +kernel
theorem dX10_tear_6 : decode cX10_tear 6 = .ok (.iload_n 2, 1) := by decide +kernel
theorem dX10_tear_7 : decode cX10_tear 7 = .ok (.ifCond .ge 5, 3) := by decide +kernel
theorem dX10_tear_10 : decode cX10_tear 10 = .ok (.iload_n 2, 1) := by decide +kernel
theorem dX10_tear_11 : decode cX10_tear 11 = .ok (.ireturn, 1) := by decide +kernel
theorem dX10_tear_12 : decode cX10_tear 12 = .ok (.aload_n 0, 1) := by decide +kernel
theorem dX10_tear_13 : decode cX10_tear 13 = .ok (.getfield 17, 3) := by decide +kernel
theorem dX10_tear_16 : decode cX10_tear 16 = .ok (.iload_n 1, 1) := by decide +kernel
theorem dX10_tear_17 : decode cX10_tear 17 = .ok (.bipush (-9), 2) := by decide +kernel
theorem dX10_tear_19 : decode cX10_tear 19 = .ok (.iastore, 1) := by decide +kernel
theorem dX10_tear_20 : decode cX10_tear 20 = .ok (.iconst 1, 1) := by decide +kernel
theorem dX10_tear_21 : decode cX10_tear 21 = .ok (.ireturn, 1) := by decide +kernel
theorem dX10_copy_0 : decode cX10_copy 0 = .ok (.iload_n 1, 1) := by decide +kernel
theorem dX10_copy_1 : decode cX10_copy 1 = .ok (.invokestatic 95, 3) := by decide +kernel
theorem dX10_copy_4 : decode cX10_copy 4 = .ok (.ifCond .eq 10, 3) := by decide +kernel
theorem dX10_copy_7 : decode cX10_copy 7 = .ok (.iload_n 3, 1) := by decide +kernel
theorem dX10_copy_8 : decode cX10_copy 8 = .ok (.invokestatic 95, 3) := by decide +kernel
theorem dX10_copy_11 : decode cX10_copy 11 = .ok (.ifCond .ne 5, 3) := by decide +kernel
theorem dX10_copy_14 : decode cX10_copy 14 = .ok (.iconst (-1), 1) := by decide +kernel
theorem dX10_copy_15 : decode cX10_copy 15 = .ok (.ireturn, 1) := by decide +kernel
theorem dX10_copy_16 : decode cX10_copy 16 = .ok (.iload 5, 2) := by decide +kernel
theorem dX10_copy_18 : decode cX10_copy 18 = .ok (.ifCond .ge 9, 3) := by decide +kernel
theorem dX10_copy_21 : decode cX10_copy 21 = .ok (.aload_n 0, 1) := by decide +kernel
theorem dX10_copy_22 : decode cX10_copy 22 = .ok (.iconst 5, 1) := by decide +kernel
theorem dX10_copy_23 : decode cX10_copy 23 = .ok (.invokevirtual 99, 3) := by decide +kernel
theorem dX10_copy_26 : decode cX10_copy 26 = .ok (.ireturn, 1) := by decide +kernel
theorem dX10_copy_27 : decode cX10_copy 27 = .ok (.aload_n 0, 1) := by decide +kernel
theorem dX10_copy_28 : decode cX10_copy 28 = .ok (.getfield 17, 3) := by decide +kernel
theorem dX10_copy_31 : decode cX10_copy 31 = .ok (.iload_n 1, 1) := by decide +kernel
theorem dX10_copy_32 : decode cX10_copy 32 = .ok (.iaload, 1) := by decide +kernel
theorem dX10_copy_33 : decode cX10_copy 33 = .ok (.ifCond .lt 12, 3) := by decide +kernel
theorem dX10_copy_36 : decode cX10_copy 36 = .ok (.aload_n 0, 1) := by decide +kernel
theorem dX10_copy_37 : decode cX10_copy 37 = .ok (.getfield 17, 3) := by decide +kernel
theorem dX10_copy_40 : decode cX10_copy 40 = .ok (.iload_n 3, 1) := by decide +kernel
theorem dX10_copy_41 : decode cX10_copy 41 = .ok (.iaload, 1) := by decide +kernel
theorem dX10_copy_42 : decode cX10_copy 42 = .ok (.ifCond .ge 9, 3) := by decide +kernel
theorem dX10_copy_45 : decode cX10_copy 45 = .ok (.aload_n 0, 1) := by decide +kernel
theorem dX10_copy_46 : decode cX10_copy 46 = .ok (.iconst 1, 1) := by decide +kernel
theorem dX10_copy_47 : decode cX10_copy 47 = .ok (.invokevirtual 99, 3) := by decide +kernel
theorem dX10_copy_50 : decode cX10_copy 50 = .ok (.ireturn, 1) := by decide +kernel
theorem dX10_copy_51 : decode cX10_copy 51 = .ok (.iload_n 2, 1) := by decide +kernel
theorem dX10_copy_52 : decode cX10_copy 52 = .ok (.ifCond .lt 43, 3) := by decide +kernel
theorem dX10_copy_55 : decode cX10_copy 55 = .ok (.iload 4, 2) := by decide +kernel
theorem dX10_copy_57 : decode cX10_copy 57 = .ok (.ifCond .lt 38, 3) := by decide +kernel
theorem dX10_copy_60 : decode cX10_copy 60 = .ok (.iload_n 2, 1) := by decide +kernel
theorem dX10_copy_61 : decode cX10_copy 61 = .ok (.i2l, 1) := by decide +kernel
theorem dX10_copy_62 : decode cX10_copy 62 = .ok (.iload 5, 2) := by decide +kernel
theorem dX10_copy_64 : decode cX10_copy 64 = .ok (.i2l, 1) := by decide +kernel
theorem dX10_copy_65 : decode cX10_copy 65 = .ok (.ladd, 1) := by decide +kernel
theorem dX10_copy_66 : decode cX10_copy 66 = .ok (.aload_n 0, 1) := by decide +kernel
theorem dX10_copy_67 : decode cX10_copy 67 = .ok (.getfield 17, 3) := by decide +kernel
theorem dX10_copy_70 : decode cX10_copy 70 = .ok (.iload_n 1, 1) := by decide +kernel
theorem dX10_copy_71 : decode cX10_copy 71 = .ok (.iaload, 1) := by decide +kernel
theorem dX10_copy_72 : decode cX10_copy 72 = .ok (.i2l, 1) := by decide +kernel
theorem dX10_copy_73 : decode cX10_copy 73 = .ok (.lcmp, 1) := by decide +kernel
theorem dX10_copy_74 : decode cX10_copy 74 = .ok (.ifCond .gt 21, 3) := by decide +kernel
theorem dX10_copy_77 : decode cX10_copy 77 = .ok (.iload 4, 2) := by decide +kernel
theorem dX10_copy_79 : decode cX10_copy 79 = .ok (.i2l, 1) := by decide +kernel
theorem dX10_copy_80 : decode cX10_copy 80 = .ok (.iload 5, 2) := by decide +kernel
theorem dX10_copy_82 : decode cX10_copy 82 = .ok (.i2l, 1) := by decide +kernel
theorem dX10_copy_83 : decode cX10_copy 83 = .ok (.ladd, 1) := by decide +kernel
theorem dX10_copy_84 : decode cX10_copy 84 = .ok (.aload_n 0, 1) := by decide +kernel
theorem dX10_copy_85 : decode cX10_copy 85 = .ok (.getfield 17, 3) := by decide +kernel
theorem dX10_copy_88 : decode cX10_copy 88 = .ok (.iload_n 3, 1) := by decide +kernel
theorem dX10_copy_89 : decode cX10_copy 89 = .ok (.iaload, 1) := by decide +kernel
theorem dX10_copy_90 : decode cX10_copy 90 = .ok (.i2l, 1) := by decide +kernel
theorem dX10_copy_91 : decode cX10_copy 91 = .ok (.lcmp, 1) := by decide +kernel
theorem dX10_copy_92 : decode cX10_copy 92 = .ok (.ifCond .le 9, 3) := by decide +kernel
theorem dX10_copy_95 : decode cX10_copy 95 = .ok (.aload_n 0, 1) := by decide +kernel
theorem dX10_copy_96 : decode cX10_copy 96 = .ok (.iconst 2, 1) := by decide +kernel
theorem dX10_copy_97 : decode cX10_copy 97 = .ok (.invokevirtual 99, 3) := by decide +kernel
theorem dX10_copy_100 : decode cX10_copy 100 = .ok (.ireturn, 1) := by decide +kernel
theorem dX10_copy_101 : decode cX10_copy 101 = .ok (.iconst 0, 1) := by decide +kernel
theorem dX10_copy_102 : decode cX10_copy 102 = .ok (.istore 6, 2) := by decide +kernel
theorem dX10_copy_104 : decode cX10_copy 104 = .ok (.iload 6, 2) := by decide +kernel
theorem dX10_copy_106 : decode cX10_copy 106 = .ok (.iload 5, 2) := by decide +kernel
theorem dX10_copy_108 : decode cX10_copy 108 = .ok (.if_icmp .ge 25, 3) := by decide +kernel
theorem dX10_copy_111 : decode cX10_copy 111 = .ok (.aload_n 0, 1) := by decide +kernel
theorem dX10_copy_112 : decode cX10_copy 112 = .ok (.getfield 23, 3) := by decide +kernel
theorem dX10_copy_115 : decode cX10_copy 115 = .ok (.iload 6, 2) := by decide +kernel
theorem dX10_copy_117 : decode cX10_copy 117 = .ok (.aload_n 0, 1) := by decide +kernel
theorem dX10_copy_118 : decode cX10_copy 118 = .ok (.iload_n 1, 1) := by decide +kernel
theorem dX10_copy_119 : decode cX10_copy 119 = .ok (.iload_n 2, 1) := by decide +kernel
theorem dX10_copy_120 : decode cX10_copy 120 = .ok (.iload 6, 2) := by decide +kernel
theorem dX10_copy_122 : decode cX10_copy 122 = .ok (.iadd, 1) := by decide +kernel
theorem dX10_copy_123 : decode cX10_copy 123 = .ok (.invokevirtual 113, 3) := by decide +kernel
theorem dX10_copy_126 : decode cX10_copy 126 = .ok (.iastore, 1) := by decide +kernel
theorem dX10_copy_127 : decode cX10_copy 127 = .ok (.iinc 6 1, 3) := by decide +kernel
theorem dX10_copy_130 : decode cX10_copy 130 = .ok (.goto (-26), 3) := by decide +kernel
theorem dX10_copy_133 : decode cX10_copy 133 = .ok (.iconst 0, 1) := by decide +kernel
theorem dX10_copy_134 : decode cX10_copy 134 = .ok (.istore 6, 2) := by decide +kernel
theorem dX10_copy_136 : decode cX10_copy 136 = .ok (.iload 6, 2) := by decide +kernel
theorem dX10_copy_138 : decode cX10_copy 138 = .ok (.iload 5, 2) := by decide +kernel
theorem dX10_copy_140 : decode cX10_copy 140 = .ok (.if_icmp .ge 26, 3) := by decide +kernel
theorem dX10_copy_143 : decode cX10_copy 143 = .ok (.aload_n 0, 1) := by decide +kernel
theorem dX10_copy_144 : decode cX10_copy 144 = .ok (.iload_n 3, 1) := by decide +kernel
theorem dX10_copy_145 : decode cX10_copy 145 = .ok (.iload 4, 2) := by decide +kernel
theorem dX10_copy_147 : decode cX10_copy 147 = .ok (.iload 6, 2) := by decide +kernel
theorem dX10_copy_149 : decode cX10_copy 149 = .ok (.iadd, 1) := by decide +kernel
theorem dX10_copy_150 : decode cX10_copy 150 = .ok (.aload_n 0, 1) := by decide +kernel
theorem dX10_copy_151 : decode cX10_copy 151 = .ok (.getfield 23, 3) := by decide +kernel
theorem dX10_copy_154 : decode cX10_copy 154 = .ok (.iload 6, 2) := by decide +kernel
theorem dX10_copy_156 : decode cX10_copy 156 = .ok (.iaload, 1) := by decide +kernel
theorem dX10_copy_157 : decode cX10_copy 157 = .ok (.invokevirtual 106, 3) := by decide +kernel
theorem dX10_copy_160 : decode cX10_copy 160 = .ok (.iinc 6 1, 3) := by decide +kernel
theorem dX10_copy_163 : decode cX10_copy 163 = .ok (.goto (-27), 3) := by decide +kernel
theorem dX10_copy_166 : decode cX10_copy 166 = .ok (.iconst 1, 1) := by decide +kernel
theorem dX10_copy_167 : decode cX10_copy 167 = .ok (.ireturn, 1) := by decide +kernel
theorem dX10_mean_0 : decode cX10_mean 0 = .ok (.aload_n 0, 1) := by decide +kernel
theorem dX10_mean_1 : decode cX10_mean 1 = .ok (.iload_n 1, 1) := by decide +kernel
theorem dX10_mean_2 : decode cX10_mean 2 = .ok (.invokevirtual 110, 3) := by decide +kernel
theorem dX10_mean_5 : decode cX10_mean 5 = .ok (.istore_n 2, 1) := by decide +kernel
theorem dX10_mean_6 : decode cX10_mean 6 = .ok (.iload_n 2, 1) := by decide +kernel
theorem dX10_mean_7 : decode cX10_mean 7 = .ok (.ifCond .ge 5, 3) := by decide +kernel
theorem dX10_mean_10 : decode cX10_mean 10 = .ok (.iload_n 2, 1) := by decide +kernel
theorem dX10_mean_11 : decode cX10_mean 11 = .ok (.ireturn, 1) := by decide +kernel
theorem dX10_mean_12 : decode cX10_mean 12 = .ok (.lconst 0, 1) := by decide +kernel
theorem dX10_mean_13 : decode cX10_mean 13 = .ok (.lstore_n 3, 1) := by decide +kernel
theorem dX10_mean_14 : decode cX10_mean 14 = .ok (.iconst 0, 1) := by decide +kernel
theorem dX10_mean_15 : decode cX10_mean 15 = .ok (.istore 5, 2) := by decide +kernel
theorem dX10_mean_17 : decode cX10_mean 17 = .ok (.iload 5, 2) := by decide +kernel
theorem dX10_mean_19 : decode cX10_mean 19 = .ok (.aload_n 0, 1) := by decide +kernel
theorem dX10_mean_20 : decode cX10_mean 20 = .ok (.getfield 17, 3) := by decide +kernel
theorem dX10_mean_23 : decode cX10_mean 23 = .ok (.iload_n 1, 1) := by decide +kernel
theorem dX10_mean_24 : decode cX10_mean 24 = .ok (.iaload, 1) := by decide +kernel
theorem dX10_mean_25 : decode cX10_mean 25 = .ok (.if_icmp .ge 20, 3) := by decide +kernel
theorem dX10_mean_28 : decode cX10_mean 28 = .ok (.lload_n 3, 1) := by decide +kernel
theorem dX10_mean_29 : decode cX10_mean 29 = .ok (.aload_n 0, 1) := by decide +kernel
theorem dX10_mean_30 : decode cX10_mean 30 = .ok (.iload_n 1, 1) := by decide +kernel
theorem dX10_mean_31 : decode cX10_mean 31 = .ok (.iload 5, 2) := by decide +kernel
theorem dX10_mean_33 : decode cX10_mean 33 = .ok (.invokevirtual 113, 3) := by decide +kernel
theorem dX10_mean_36 : decode cX10_mean 36 = .ok (.i2l, 1) := by decide +kernel
theorem dX10_mean_37 : decode cX10_mean 37 = .ok (.ladd, 1) := by decide +kernel
theorem dX10_mean_38 : decode cX10_mean 38 = .ok (.lstore_n 3, 1) := by decide +kernel
theorem dX10_mean_39 : decode cX10_mean 39 = .ok (.iinc 5 1, 3) := by decide +kernel
theorem dX10_mean_42 : decode cX10_mean 42 = .ok (.goto (-25), 3) := by decide +kernel
theorem dX10_mean_45 : decode cX10_mean 45 = .ok (.aload_n 0, 1) := by decide +kernel
theorem dX10_mean_46 : decode cX10_mean 46 = .ok (.getfield 17, 3) := by decide +kernel
theorem dX10_mean_49 : decode cX10_mean 49 = .ok (.iload_n 1, 1) := by decide +kernel
theorem dX10_mean_50 : decode cX10_mean 50 = .ok (.iaload, 1) := by decide +kernel
theorem dX10_mean_51 : decode cX10_mean 51 = .ok (.ifCond .ne 11, 3) := by decide +kernel
theorem dX10_mean_54 : decode cX10_mean 54 = .ok (.aload_n 0, 1) := by decide +kernel
theorem dX10_mean_55 : decode cX10_mean 55 = .ok (.iconst 4, 1) := by decide +kernel
theorem dX10_mean_56 : decode cX10_mean 56 = .ok (.invokevirtual 99, 3) := by decide +kernel
theorem dX10_mean_59 : decode cX10_mean 59 = .ok (.goto 18, 3) := by decide +kernel
theorem dX10_mean_62 : decode cX10_mean 62 = .ok (.aload_n 0, 1) := by decide +kernel
theorem dX10_mean_63 : decode cX10_mean 63 = .ok (.lload_n 3, 1) := by decide +kernel
theorem dX10_mean_64 : decode cX10_mean 64 = .ok (.aload_n 0, 1) := by decide +kernel
theorem dX10_mean_65 : decode cX10_mean 65 = .ok (.getfield 17, 3) := by decide +kernel
theorem dX10_mean_68 : decode cX10_mean 68 = .ok (.iload_n 1, 1) := by decide +kernel
theorem dX10_mean_69 : decode cX10_mean 69 = .ok (.iaload, 1) := by decide +kernel
theorem dX10_mean_70 : decode cX10_mean 70 = .ok (.i2l, 1) := by decide +kernel
theorem dX10_mean_71 : decode cX10_mean 71 = .ok (.ldiv, 1) := by decide +kernel
theorem dX10_mean_72 : decode cX10_mean 72 = .ok (.l2i, 1) := by decide +kernel
theorem dX10_mean_73 : decode cX10_mean 73 = .ok (.iconst 1, 1) := by decide +kernel
theorem dX10_mean_74 : decode cX10_mean 74 = .ok (.invokevirtual 117, 3) := by decide +kernel
theorem dX10_mean_77 : decode cX10_mean 77 = .ok (.ireturn, 1) := by decide +kernel
theorem dX10_text_0 : decode cX10_text 0 = .ok (.iload_n 1, 1) := by decide +kernel
theorem dX10_text_1 : decode cX10_text 1 = .ok (.invokestatic 103, 3) := by decide +kernel
theorem dX10_text_4 : decode cX10_text 4 = .ok (.ifCond .eq 9, 3) := by decide +kernel
theorem dX10_text_7 : decode cX10_text 7 = .ok (.iload_n 2, 1) := by decide +kernel
theorem dX10_text_8 : decode cX10_text 8 = .ok (.bipush 120, 2) := by decide +kernel
theorem dX10_text_10 : decode cX10_text 10 = .ok (.if_icmp .le 5, 3) := by decide +kernel
theorem dX10_text_13 : decode cX10_text 13 = .ok (.iconst (-1), 1) := by decide +kernel
theorem dX10_text_14 : decode cX10_text 14 = .ok (.ireturn, 1) := by decide +kernel
theorem dX10_text_15 : decode cX10_text 15 = .ok (.iload_n 2, 1) := by decide +kernel
theorem dX10_text_16 : decode cX10_text 16 = .ok (.ifCond .ge 9, 3) := by decide +kernel
theorem dX10_text_19 : decode cX10_text 19 = .ok (.aload_n 0, 1) := by decide +kernel
theorem dX10_text_20 : decode cX10_text 20 = .ok (.iconst 5, 1) := by decide +kernel
theorem dX10_text_21 : decode cX10_text 21 = .ok (.invokevirtual 99, 3) := by decide +kernel
theorem dX10_text_24 : decode cX10_text 24 = .ok (.ireturn, 1) := by decide +kernel
theorem dX10_text_25 : decode cX10_text 25 = .ok (.aload_n 0, 1) := by decide +kernel
theorem dX10_text_26 : decode cX10_text 26 = .ok (.getfield 26, 3) := by decide +kernel
theorem dX10_text_29 : decode cX10_text 29 = .ok (.iload_n 1, 1) := by decide +kernel
theorem dX10_text_30 : decode cX10_text 30 = .ok (.iload_n 2, 1) := by decide +kernel
theorem dX10_text_31 : decode cX10_text 31 = .ok (.iastore, 1) := by decide +kernel
theorem dX10_text_32 : decode cX10_text 32 = .ok (.iconst 0, 1) := by decide +kernel
theorem dX10_text_33 : decode cX10_text 33 = .ok (.istore_n 3, 1) := by decide +kernel
theorem dX10_text_34 : decode cX10_text 34 = .ok (.iload_n 3, 1) := by decide +kernel
theorem dX10_text_35 : decode cX10_text 35 = .ok (.bipush 120, 2) := by decide +kernel
theorem dX10_text_37 : decode cX10_text 37 = .ok (.if_icmp .ge 22, 3) := by decide +kernel
theorem dX10_text_40 : decode cX10_text 40 = .ok (.aload_n 0, 1) := by decide +kernel
theorem dX10_text_41 : decode cX10_text 41 = .ok (.getfield 29, 3) := by decide +kernel
theorem dX10_text_44 : decode cX10_text 44 = .ok (.bipush 120, 2) := by decide +kernel
theorem dX10_text_46 : decode cX10_text 46 = .ok (.iload_n 1, 1) := by decide +kernel
theorem dX10_text_47 : decode cX10_text 47 = .ok (.imul, 1) := by decide +kernel
theorem dX10_text_48 : decode cX10_text 48 = .ok (.iload_n 3, 1) := by decide +kernel
theorem dX10_text_49 : decode cX10_text 49 = .ok (.iadd, 1) := by decide +kernel
theorem dX10_text_50 : decode cX10_text 50 = .ok (.bipush 32, 2) := by decide +kernel
theorem dX10_text_52 : decode cX10_text 52 = .ok (.iastore, 1) := by decide +kernel
theorem dX10_text_53 : decode cX10_text 53 = .ok (.iinc 3 1, 3) := by decide +kernel
theorem dX10_text_56 : decode cX10_text 56 = .ok (.goto (-22), 3) := by decide +kernel
theorem dX10_text_59 : decode cX10_text 59 = .ok (.iload_n 2, 1) := by decide +kernel
theorem dX10_text_60 : decode cX10_text 60 = .ok (.ireturn, 1) := by decide +kernel
theorem dX10_put_0 : decode cX10_put 0 = .ok (.aload_n 0, 1) := by decide +kernel
theorem dX10_put_1 : decode cX10_put 1 = .ok (.iload_n 1, 1) := by decide +kernel
theorem dX10_put_2 : decode cX10_put 2 = .ok (.invokevirtual 123, 3) := by decide +kernel
theorem dX10_put_5 : decode cX10_put 5 = .ok (.istore 4, 2) := by decide +kernel
theorem dX10_put_7 : decode cX10_put 7 = .ok (.iload 4, 2) := by decide +kernel
theorem dX10_put_9 : decode cX10_put 9 = .ok (.ifCond .ge 6, 3) := by decide +kernel
theorem dX10_put_12 : decode cX10_put 12 = .ok (.iload 4, 2) := by decide +kernel
theorem dX10_put_14 : decode cX10_put 14 = .ok (.ireturn, 1) := by decide +kernel
theorem dX10_put_15 : decode cX10_put 15 = .ok (.iload_n 2, 1) := by decide +kernel
theorem dX10_put_16 : decode cX10_put 16 = .ok (.iconst 0, 1) := by decide +kernel
theorem dX10_put_17 : decode cX10_put 17 = .ok (.aload_n 0, 1) := by decide +kernel
theorem dX10_put_18 : decode cX10_put 18 = .ok (.getfield 26, 3) := by decide +kernel
theorem dX10_put_21 : decode cX10_put 21 = .ok (.iload_n 1, 1) := by decide +kernel
theorem dX10_put_22 : decode cX10_put 22 = .ok (.iaload, 1) := by decide +kernel
theorem dX10_put_23 : decode cX10_put 23 = .ok (.iconst 1, 1) := by decide +kernel
theorem dX10_put_24 : decode cX10_put 24 = .ok (.isub, 1) := by decide +kernel
theorem dX10_put_25 : decode cX10_put 25 = .ok (.invokestatic 91, 3) := by decide +kernel
theorem dX10_put_28 : decode cX10_put 28 = .ok (.ifCond .ne 9, 3) := by decide +kernel
theorem dX10_put_31 : decode cX10_put 31 = .ok (.aload_n 0, 1) := by decide +kernel
theorem dX10_put_32 : decode cX10_put 32 = .ok (.iconst 2, 1) := by decide +kernel
theorem dX10_put_33 : decode cX10_put 33 = .ok (.invokevirtual 99, 3) := by decide +kernel
theorem dX10_put_36 : decode cX10_put 36 = .ok (.ireturn, 1) := by decide +kernel
theorem dX10_put_37 : decode cX10_put 37 = .ok (.aload_n 0, 1) := by decide +kernel
theorem dX10_put_38 : decode cX10_put 38 = .ok (.getfield 29, 3) := by decide +kernel
theorem dX10_put_41 : decode cX10_put 41 = .ok (.bipush 120, 2) := by decide +kernel
theorem dX10_put_43 : decode cX10_put 43 = .ok (.iload_n 1, 1) := by decide +kernel
theorem dX10_put_44 : decode cX10_put 44 = .ok (.imul, 1) := by decide +kernel
theorem dX10_put_45 : decode cX10_put 45 = .ok (.iload_n 2, 1) := by decide +kernel
theorem dX10_put_46 : decode cX10_put 46 = .ok (.iadd, 1) := by decide +kernel
theorem dX10_put_47 : decode cX10_put 47 = .ok (.iaload, 1) := by decide +kernel
theorem dX10_put_48 : decode cX10_put 48 = .ok (.istore 5, 2) := by decide +kernel
theorem dX10_put_50 : decode cX10_put 50 = .ok (.aload_n 0, 1) := by decide +kernel
theorem dX10_put_51 : decode cX10_put 51 = .ok (.getfield 29, 3) := by decide +kernel
theorem dX10_put_54 : decode cX10_put 54 = .ok (.bipush 120, 2) := by decide +kernel
theorem dX10_put_56 : decode cX10_put 56 = .ok (.iload_n 1, 1) := by decide +kernel
theorem dX10_put_57 : decode cX10_put 57 = .ok (.imul, 1) := by decide +kernel
theorem dX10_put_58 : decode cX10_put 58 = .ok (.iload_n 2, 1) := by decide +kernel
theorem dX10_put_59 : decode cX10_put 59 = .ok (.iadd, 1) := by decide +kernel
theorem dX10_put_60 : decode cX10_put 60 = .ok (.iload_n 3, 1) := by decide +kernel
theorem dX10_put_61 : decode cX10_put 61 = .ok (.i2b, 1) := by decide +kernel
theorem dX10_put_62 : decode cX10_put 62 = .ok (.iastore, 1) := by decide +kernel
theorem dX10_put_63 : decode cX10_put 63 = .ok (.iload 5, 2) := by decide +kernel
theorem dX10_put_65 : decode cX10_put 65 = .ok (.sipush 1000, 3) := by decide +kernel
theorem dX10_put_68 : decode cX10_put 68 = .ok (.iadd, 1) := by decide +kernel
theorem dX10_put_69 : decode cX10_put 69 = .ok (.ireturn, 1) := by decide +kernel
theorem dX10_here_0 : decode cX10_here 0 = .ok (.aload_n 0, 1) := by decide +kernel
theorem dX10_here_1 : decode cX10_here 1 = .ok (.getfield 126, 3) := by decide +kernel
theorem dX10_here_4 : decode cX10_here 4 = .ok (.aload_n 0, 1) := by decide +kernel
theorem dX10_here_5 : decode cX10_here 5 = .ok (.getfield 26, 3) := by decide +kernel
theorem dX10_here_8 : decode cX10_here 8 = .ok (.iload_n 1, 1) := by decide +kernel
theorem dX10_here_9 : decode cX10_here 9 = .ok (.iaload, 1) := by decide +kernel
theorem dX10_here_10 : decode cX10_here 10 = .ok (.if_icmp .ge 20, 3) := by decide +kernel
theorem dX10_here_13 : decode cX10_here 13 = .ok (.aload_n 0, 1) := by decide +kernel
theorem dX10_here_14 : decode cX10_here 14 = .ok (.getfield 29, 3) := by decide +kernel
theorem dX10_here_17 : decode cX10_here 17 = .ok (.bipush 120, 2) := by decide +kernel
theorem dX10_here_19 : decode cX10_here 19 = .ok (.iload_n 1, 1) := by decide +kernel
theorem dX10_here_20 : decode cX10_here 20 = .ok (.imul, 1) := by decide +kernel
theorem dX10_here_21 : decode cX10_here 21 = .ok (.aload_n 0, 1) := by decide +kernel
theorem dX10_here_22 : decode cX10_here 22 = .ok (.getfield 126, 3) := by decide +kernel
theorem dX10_here_25 : decode cX10_here 25 = .ok (.iadd, 1) := by decide +kernel
theorem dX10_here_26 : decode cX10_here 26 = .ok (.iaload, 1) := by decide +kernel
theorem dX10_here_27 : decode cX10_here 27 = .ok (.goto 5, 3) := by decide +kernel
theorem dX10_here_30 : decode cX10_here 30 = .ok (.bipush (-9), 2) := by decide +kernel
theorem dX10_here_32 : decode cX10_here 32 = .ok (.ireturn, 1) := by decide +kernel
theorem dX10_readsWord_0 : decode cX10_readsWord 0 = .ok (.iconst 0, 1) := by decide +kernel
theorem dX10_readsWord_1 : decode cX10_readsWord 1 = .ok (.istore_n 2, 1) := by decide +kernel
theorem dX10_readsWord_2 : decode cX10_readsWord 2 = .ok (.iconst 0, 1) := by decide +kernel
theorem dX10_readsWord_3 : decode cX10_readsWord 3 = .ok (.istore_n 3, 1) := by decide +kernel
theorem dX10_readsWord_4 : decode cX10_readsWord 4 = .ok (.iload_n 3, 1) := by decide +kernel
theorem dX10_readsWord_5 : decode cX10_readsWord 5 = .ok (.bipush 10, 2) := by decide +kernel
theorem dX10_readsWord_7 : decode cX10_readsWord 7 = .ok (.if_icmp .ge 75, 3) := by decide +kernel
theorem dX10_readsWord_10 : decode cX10_readsWord 10 = .ok (.aload_n 0, 1) := by decide +kernel
theorem dX10_readsWord_11 : decode cX10_readsWord 11 = .ok (.iload_n 1, 1) := by decide +kernel
theorem dX10_readsWord_12 : decode cX10_readsWord 12 = .ok (.invokevirtual 129, 3) := by decide +kernel
theorem dX10_readsWord_15 : decode cX10_readsWord 15 = .ok (.bipush 48, 2) := by decide +kernel
theorem dX10_readsWord_17 : decode cX10_readsWord 17 = .ok (.bipush 57, 2) := by decide +kernel
theorem dX10_readsWord_19 : decode cX10_readsWord 19 = .ok (.invokestatic 91, 3) := by decide +kernel
theorem dX10_readsWord_22 : decode cX10_readsWord 22 = .ok (.ifCond .ne 5, 3) := by decide +kernel
theorem dX10_readsWord_25 : decode cX10_readsWord 25 = .ok (.iconst 0, 1) := by decide +kernel
theorem dX10_readsWord_26 : decode cX10_readsWord 26 = .ok (.ireturn, 1) := by decide +kernel
theorem dX10_readsWord_27 : decode cX10_readsWord 27 = .ok (.aload_n 0, 1) := by decide +kernel
theorem dX10_readsWord_28 : decode cX10_readsWord 28 = .ok (.getfield 35, 3) := by decide +kernel
theorem dX10_readsWord_31 : decode cX10_readsWord 31 = .ok (.sipush 160, 3) := by decide +kernel
theorem dX10_readsWord_34 : decode cX10_readsWord 34 = .ok (.bipush 10, 2) := by decide +kernel
theorem dX10_readsWord_36 : decode cX10_readsWord 36 = .ok (.aload_n 0, 1) := by decide +kernel
theorem dX10_readsWord_37 : decode cX10_readsWord 37 = .ok (.getfield 32, 3) := by decide +kernel
theorem dX10_readsWord_40 : decode cX10_readsWord 40 = .ok (.iconst 2, 1) := by decide +kernel
theorem dX10_readsWord_41 : decode cX10_readsWord 41 = .ok (.iaload, 1) := by decide +kernel
theorem dX10_readsWord_42 : decode cX10_readsWord 42 = .ok (.imul, 1) := by decide +kernel
theorem dX10_readsWord_43 : decode cX10_readsWord 43 = .ok (.iadd, 1) := by decide +kernel
theorem dX10_readsWord_44 : decode cX10_readsWord 44 = .ok (.iload_n 3, 1) := by decide +kernel
theorem dX10_readsWord_45 : decode cX10_readsWord 45 = .ok (.iadd, 1) := by decide +kernel
theorem dX10_readsWord_46 : decode cX10_readsWord 46 = .ok (.aload_n 0, 1) := by decide +kernel
theorem dX10_readsWord_47 : decode cX10_readsWord 47 = .ok (.iload_n 1, 1) := by decide +kernel
theorem dX10_readsWord_48 : decode cX10_readsWord 48 = .ok (.invokevirtual 129, 3) := by decide +kernel
theorem dX10_readsWord_51 : decode cX10_readsWord 51 = .ok (.bipush 48, 2) := by decide +kernel
theorem dX10_readsWord_53 : decode cX10_readsWord 53 = .ok (.isub, 1) := by decide +kernel
theorem dX10_readsWord_54 : decode cX10_readsWord 54 = .ok (.iastore, 1) := by decide +kernel
theorem dX10_readsWord_55 : decode cX10_readsWord 55 = .ok (.iload_n 2, 1) := by decide +kernel
theorem dX10_readsWord_56 : decode cX10_readsWord 56 = .ok (.aload_n 0, 1) := by decide +kernel
theorem dX10_readsWord_57 : decode cX10_readsWord 57 = .ok (.iload_n 1, 1) := by decide +kernel
theorem dX10_readsWord_58 : decode cX10_readsWord 58 = .ok (.invokevirtual 129, 3) := by decide +kernel
theorem dX10_readsWord_61 : decode cX10_readsWord 61 = .ok (.bipush 48, 2) := by decide +kernel
theorem dX10_readsWord_63 : decode cX10_readsWord 63 = .ok (.isub, 1) := by decide +kernel
theorem dX10_readsWord_64 : decode cX10_readsWord 64 = .ok (.iadd, 1) := by decide +kernel
theorem dX10_readsWord_65 : decode cX10_readsWord 65 = .ok (.istore_n 2, 1) := by decide +kernel
theorem dX10_readsWord_66 : decode cX10_readsWord 66 = .ok (.aload_n 0, 1) := by decide +kernel
theorem dX10_readsWord_67 : decode cX10_readsWord 67 = .ok (.dup, 1) := by decide +kernel
theorem dX10_readsWord_68 : decode cX10_readsWord 68 = .ok (.getfield 126, 3) := by decide +kernel
theorem dX10_readsWord_71 : decode cX10_readsWord 71 = .ok (.iconst 1, 1) := by decide +kernel
theorem dX10_readsWord_72 : decode cX10_readsWord 72 = .ok (.iadd, 1) := by decide +kernel
theorem dX10_readsWord_73 : decode cX10_readsWord 73 = .ok (.putfield 126, 3) := by decide +kernel
theorem dX10_readsWord_76 : decode cX10_readsWord 76 = .ok (.iinc 3 1, 3) := by decide +kernel
theorem dX10_readsWord_79 : decode cX10_readsWord 79 = .ok (.goto (-75), 3) := by decide +kernel
theorem dX10_readsWord_82 : decode cX10_readsWord 82 = .ok (.aload_n 0, 1) := by decide +kernel
theorem dX10_readsWord_83 : decode cX10_readsWord 83 = .ok (.getfield 32, 3) := by decide +kernel
theorem dX10_readsWord_86 : decode cX10_readsWord 86 = .ok (.iconst 2, 1) := by decide +kernel
theorem dX10_readsWord_87 : decode cX10_readsWord 87 = .ok (.dup2, 1) := by decide +kernel
theorem dX10_readsWord_88 : decode cX10_readsWord 88 = .ok (.iaload, 1) := by decide +kernel
theorem dX10_readsWord_89 : decode cX10_readsWord 89 = .ok (.iconst 1, 1) := by decide +kernel
theorem dX10_readsWord_90 : decode cX10_readsWord 90 = .ok (.iadd, 1) := by decide +kernel
theorem dX10_readsWord_91 : decode cX10_readsWord 91 = .ok (.iastore, 1) := by decide +kernel
theorem dX10_readsWord_92 : decode cX10_readsWord 92 = .ok (.iload_n 2, 1) := by decide +kernel
theorem dX10_readsWord_93 : decode cX10_readsWord 93 = .ok (.ifCond .le 7, 3) := by decide +kernel
theorem dX10_readsWord_96 : decode cX10_readsWord 96 = .ok (.iconst 1, 1) := by decide +kernel
theorem dX10_readsWord_97 : decode cX10_readsWord 97 = .ok (.goto 4, 3) := by decide +kernel
theorem dX10_readsWord_100 : decode cX10_readsWord 100 = .ok (.iconst 0, 1) := by decide +kernel
theorem dX10_readsWord_101 : decode cX10_readsWord 101 = .ok (.ireturn, 1) := by decide +kernel
theorem dX10_goesOn_0 : decode cX10_goesOn 0 = .ok (.aload_n 0, 1) := by decide +kernel
theorem dX10_goesOn_1 : decode cX10_goesOn 1 = .ok (.iconst 0, 1) := by decide +kernel
theorem dX10_goesOn_2 : decode cX10_goesOn 2 = .ok (.putfield 126, 3) := by decide +kernel
theorem dX10_goesOn_5 : decode cX10_goesOn 5 = .ok (.aload_n 0, 1) := by decide +kernel
theorem dX10_goesOn_6 : decode cX10_goesOn 6 = .ok (.getfield 32, 3) := by decide +kernel
theorem dX10_goesOn_9 : decode cX10_goesOn 9 = .ok (.iconst 2, 1) := by decide +kernel
theorem dX10_goesOn_10 : decode cX10_goesOn 10 = .ok (.iconst 0, 1) := by decide +kernel
theorem dX10_goesOn_11 : decode cX10_goesOn 11 = .ok (.iastore, 1) := by decide +kernel
theorem dX10_goesOn_12 : decode cX10_goesOn 12 = .ok (.aload_n 0, 1) := by decide +kernel
theorem dX10_goesOn_13 : decode cX10_goesOn 13 = .ok (.getfield 126, 3) := by decide +kernel
theorem dX10_goesOn_16 : decode cX10_goesOn 16 = .ok (.aload_n 0, 1) := by decide +kernel
theorem dX10_goesOn_17 : decode cX10_goesOn 17 = .ok (.getfield 26, 3) := by decide +kernel
theorem dX10_goesOn_20 : decode cX10_goesOn 20 = .ok (.iload_n 1, 1) := by decide +kernel
theorem dX10_goesOn_21 : decode cX10_goesOn 21 = .ok (.iaload, 1) := by decide +kernel
theorem dX10_goesOn_22 : decode cX10_goesOn 22 = .ok (.if_icmp .ge 75, 3) := by decide +kernel
theorem dX10_goesOn_25 : decode cX10_goesOn 25 = .ok (.aload_n 0, 1) := by decide +kernel
theorem dX10_goesOn_26 : decode cX10_goesOn 26 = .ok (.iload_n 1, 1) := by decide +kernel
theorem dX10_goesOn_27 : decode cX10_goesOn 27 = .ok (.invokevirtual 129, 3) := by decide +kernel
theorem dX10_goesOn_30 : decode cX10_goesOn 30 = .ok (.bipush 32, 2) := by decide +kernel
theorem dX10_goesOn_32 : decode cX10_goesOn 32 = .ok (.if_icmp .ne 16, 3) := by decide +kernel
theorem dX10_goesOn_35 : decode cX10_goesOn 35 = .ok (.aload_n 0, 1) := by decide +kernel
theorem dX10_goesOn_36 : decode cX10_goesOn 36 = .ok (.dup, 1) := by decide +kernel
theorem dX10_goesOn_37 : decode cX10_goesOn 37 = .ok (.getfield 126, 3) := by decide +kernel
theorem dX10_goesOn_40 : decode cX10_goesOn 40 = .ok (.iconst 1, 1) := by decide +kernel
theorem dX10_goesOn_41 : decode cX10_goesOn 41 = .ok (.iadd, 1) := by decide +kernel
theorem dX10_goesOn_42 : decode cX10_goesOn 42 = .ok (.putfield 126, 3) := by decide +kernel
theorem dX10_goesOn_45 : decode cX10_goesOn 45 = .ok (.goto (-33), 3) := by decide +kernel
theorem dX10_goesOn_48 : decode cX10_goesOn 48 = .ok (.aload_n 0, 1) := by decide +kernel
theorem dX10_goesOn_49 : decode cX10_goesOn 49 = .ok (.iload_n 1, 1) := by decide +kernel
theorem dX10_goesOn_50 : decode cX10_goesOn 50 = .ok (.invokevirtual 129, 3) := by decide +kernel
theorem dX10_goesOn_53 : decode cX10_goesOn 53 = .ok (.bipush 119, 2) := by decide +kernel
theorem dX10_goesOn_55 : decode cX10_goesOn 55 = .ok (.if_icmp .ne 14, 3) := by decide +kernel
theorem dX10_goesOn_58 : decode cX10_goesOn 58 = .ok (.aload_n 0, 1) := by decide +kernel
theorem dX10_goesOn_59 : decode cX10_goesOn 59 = .ok (.getfield 32, 3) := by decide +kernel
theorem dX10_goesOn_62 : decode cX10_goesOn 62 = .ok (.iconst 2, 1) := by decide +kernel
theorem dX10_goesOn_63 : decode cX10_goesOn 63 = .ok (.iaload, 1) := by decide +kernel
theorem dX10_goesOn_64 : decode cX10_goesOn 64 = .ok (.bipush 8, 2) := by decide +kernel
theorem dX10_goesOn_66 : decode cX10_goesOn 66 = .ok (.if_icmp .ne 8, 3) := by decide +kernel
theorem dX10_goesOn_69 : decode cX10_goesOn 69 = .ok (.aload_n 0, 1) := by decide +kernel
theorem dX10_goesOn_70 : decode cX10_goesOn 70 = .ok (.getfield 126, 3) := by decide +kernel
theorem dX10_goesOn_73 : decode cX10_goesOn 73 = .ok (.ireturn, 1) := by decide +kernel
theorem dX10_goesOn_74 : decode cX10_goesOn 74 = .ok (.aload_n 0, 1) := by decide +kernel
theorem dX10_goesOn_75 : decode cX10_goesOn 75 = .ok (.dup, 1) := by decide +kernel
theorem dX10_goesOn_76 : decode cX10_goesOn 76 = .ok (.getfield 126, 3) := by decide +kernel
theorem dX10_goesOn_79 : decode cX10_goesOn 79 = .ok (.iconst 1, 1) := by decide +kernel
theorem dX10_goesOn_80 : decode cX10_goesOn 80 = .ok (.iadd, 1) := by decide +kernel
theorem dX10_goesOn_81 : decode cX10_goesOn 81 = .ok (.putfield 126, 3) := by decide +kernel
theorem dX10_goesOn_84 : decode cX10_goesOn 84 = .ok (.aload_n 0, 1) := by decide +kernel
theorem dX10_goesOn_85 : decode cX10_goesOn 85 = .ok (.iload_n 1, 1) := by decide +kernel
theorem dX10_goesOn_86 : decode cX10_goesOn 86 = .ok (.invokevirtual 132, 3) := by decide +kernel
theorem dX10_goesOn_89 : decode cX10_goesOn 89 = .ok (.ifCond .ne (-77), 3) := by decide +kernel
theorem dX10_goesOn_92 : decode cX10_goesOn 92 = .ok (.aload_n 0, 1) := by decide +kernel
theorem dX10_goesOn_93 : decode cX10_goesOn 93 = .ok (.getfield 126, 3) := by decide +kernel
theorem dX10_goesOn_96 : decode cX10_goesOn 96 = .ok (.ireturn, 1) := by decide +kernel
theorem dX10_goesOn_97 : decode cX10_goesOn 97 = .ok (.aload_n 0, 1) := by decide +kernel
theorem dX10_goesOn_98 : decode cX10_goesOn 98 = .ok (.getfield 32, 3) := by decide +kernel
theorem dX10_goesOn_101 : decode cX10_goesOn 101 = .ok (.iconst 2, 1) := by decide +kernel
theorem dX10_goesOn_102 : decode cX10_goesOn 102 = .ok (.iaload, 1) := by decide +kernel
theorem dX10_goesOn_103 : decode cX10_goesOn 103 = .ok (.ifCond .ne 12, 3) := by decide +kernel
theorem dX10_goesOn_106 : decode cX10_goesOn 106 = .ok (.aload_n 0, 1) := by decide +kernel
theorem dX10_goesOn_107 : decode cX10_goesOn 107 = .ok (.getfield 26, 3) := by decide +kernel
theorem dX10_goesOn_110 : decode cX10_goesOn 110 = .ok (.iload_n 1, 1) := by decide +kernel
theorem dX10_goesOn_111 : decode cX10_goesOn 111 = .ok (.iaload, 1) := by decide +kernel
theorem dX10_goesOn_112 : decode cX10_goesOn 112 = .ok (.goto 5, 3) := by decide +kernel
theorem dX10_goesOn_115 : decode cX10_goesOn 115 = .ok (.bipush (-9), 2) := by decide +kernel
theorem dX10_goesOn_117 : decode cX10_goesOn 117 = .ok (.ireturn, 1) := by decide +kernel
theorem dX10_fault_0 : decode cX10_fault 0 = .ok (.aload_n 0, 1) := by decide +kernel
theorem dX10_fault_1 : decode cX10_fault 1 = .ok (.iload_n 1, 1) := by decide +kernel
theorem dX10_fault_2 : decode cX10_fault 2 = .ok (.invokevirtual 123, 3) := by decide +kernel
theorem dX10_fault_5 : decode cX10_fault 5 = .ok (.istore_n 2, 1) := by decide +kernel
theorem dX10_fault_6 : decode cX10_fault 6 = .ok (.iload_n 2, 1) := by decide +kernel
theorem dX10_fault_7 : decode cX10_fault 7 = .ok (.ifCond .ge 7, 3) := by decide +kernel
theorem dX10_fault_10 : decode cX10_fault 10 = .ok (.iload_n 2, 1) := by decide +kernel
theorem dX10_fault_11 : decode cX10_fault 11 = .ok (.goto 8, 3) := by decide +kernel
theorem dX10_fault_14 : decode cX10_fault 14 = .ok (.aload_n 0, 1) := by decide +kernel
theorem dX10_fault_15 : decode cX10_fault 15 = .ok (.iload_n 1, 1) := by decide +kernel
theorem dX10_fault_16 : decode cX10_fault 16 = .ok (.invokevirtual 135, 3) := by decide +kernel
theorem dX10_fault_19 : decode cX10_fault 19 = .ok (.ireturn, 1) := by decide +kernel
theorem dX10_box_0 : decode cX10_box 0 = .ok (.iload_n 1, 1) := by decide +kernel
theorem dX10_box_1 : decode cX10_box 1 = .ok (.iconst 0, 1) := by decide +kernel
theorem dX10_box_2 : decode cX10_box 2 = .ok (.iconst 1, 1) := by decide +kernel
theorem dX10_box_3 : decode cX10_box 3 = .ok (.invokestatic 91, 3) := by decide +kernel
theorem dX10_box_6 : decode cX10_box 6 = .ok (.ifCond .ne 5, 3) := by decide +kernel
theorem dX10_box_9 : decode cX10_box 9 = .ok (.iconst (-1), 1) := by decide +kernel
theorem dX10_box_10 : decode cX10_box 10 = .ok (.ireturn, 1) := by decide +kernel
theorem dX10_box_11 : decode cX10_box 11 = .ok (.aload_n 0, 1) := by decide +kernel
theorem dX10_box_12 : decode cX10_box 12 = .ok (.iload_n 2, 1) := by decide +kernel
theorem dX10_box_13 : decode cX10_box 13 = .ok (.invokevirtual 123, 3) := by decide +kernel
theorem dX10_box_16 : decode cX10_box 16 = .ok (.istore_n 3, 1) := by decide +kernel
theorem dX10_box_17 : decode cX10_box 17 = .ok (.iload_n 3, 1) := by decide +kernel
theorem dX10_box_18 : decode cX10_box 18 = .ok (.ifCond .ge 5, 3) := by decide +kernel
theorem dX10_box_21 : decode cX10_box 21 = .ok (.iload_n 3, 1) := by decide +kernel
theorem dX10_box_22 : decode cX10_box 22 = .ok (.ireturn, 1) := by decide +kernel
theorem dX10_box_23 : decode cX10_box 23 = .ok (.aload_n 0, 1) := by decide +kernel
theorem dX10_box_24 : decode cX10_box 24 = .ok (.iload_n 2, 1) := by decide +kernel
theorem dX10_box_25 : decode cX10_box 25 = .ok (.invokevirtual 135, 3) := by decide +kernel
theorem dX10_box_28 : decode cX10_box 28 = .ok (.bipush (-9), 2) := by decide +kernel
theorem dX10_box_30 : decode cX10_box 30 = .ok (.if_icmp .eq 6, 3) := by decide +kernel
theorem dX10_box_33 : decode cX10_box 33 = .ok (.bipush (-4), 2) := by decide +kernel
theorem dX10_box_35 : decode cX10_box 35 = .ok (.ireturn, 1) := by decide +kernel
theorem dX10_box_36 : decode cX10_box 36 = .ok (.aload_n 0, 1) := by decide +kernel
theorem dX10_box_37 : decode cX10_box 37 = .ok (.getfield 32, 3) := by decide +kernel
theorem dX10_box_40 : decode cX10_box 40 = .ok (.iload_n 1, 1) := by decide +kernel
theorem dX10_box_41 : decode cX10_box 41 = .ok (.aload_n 0, 1) := by decide +kernel
theorem dX10_box_42 : decode cX10_box 42 = .ok (.getfield 32, 3) := by decide +kernel
theorem dX10_box_45 : decode cX10_box 45 = .ok (.iconst 2, 1) := by decide +kernel
theorem dX10_box_46 : decode cX10_box 46 = .ok (.iaload, 1) := by decide +kernel
theorem dX10_box_47 : decode cX10_box 47 = .ok (.iastore, 1) := by decide +kernel
theorem dX10_box_48 : decode cX10_box 48 = .ok (.iconst 0, 1) := by decide +kernel
theorem dX10_box_49 : decode cX10_box 49 = .ok (.istore 4, 2) := by decide +kernel
theorem dX10_box_51 : decode cX10_box 51 = .ok (.iload 4, 2) := by decide +kernel
theorem dX10_box_53 : decode cX10_box 53 = .ok (.bipush 80, 2) := by decide +kernel
theorem dX10_box_55 : decode cX10_box 55 = .ok (.if_icmp .ge 32, 3) := by decide +kernel
theorem dX10_box_58 : decode cX10_box 58 = .ok (.aload_n 0, 1) := by decide +kernel
theorem dX10_box_59 : decode cX10_box 59 = .ok (.getfield 35, 3) := by decide +kernel
theorem dX10_box_62 : decode cX10_box 62 = .ok (.bipush 80, 2) := by decide +kernel
theorem dX10_box_64 : decode cX10_box 64 = .ok (.iload_n 1, 1) := by decide +kernel
theorem dX10_box_65 : decode cX10_box 65 = .ok (.imul, 1) := by decide +kernel
theorem dX10_box_66 : decode cX10_box 66 = .ok (.iload 4, 2) := by decide +kernel
theorem dX10_box_68 : decode cX10_box 68 = .ok (.iadd, 1) := by decide +kernel
theorem dX10_box_69 : decode cX10_box 69 = .ok (.aload_n 0, 1) := by decide +kernel
theorem dX10_box_70 : decode cX10_box 70 = .ok (.getfield 35, 3) := by decide +kernel
theorem dX10_box_73 : decode cX10_box 73 = .ok (.sipush 160, 3) := by decide +kernel
theorem dX10_box_76 : decode cX10_box 76 = .ok (.iload 4, 2) := by decide +kernel
theorem dX10_box_78 : decode cX10_box 78 = .ok (.iadd, 1) := by decide +kernel
theorem dX10_box_79 : decode cX10_box 79 = .ok (.iaload, 1) := by decide +kernel
theorem dX10_box_80 : decode cX10_box 80 = .ok (.iastore, 1) := by decide +kernel
theorem dX10_box_81 : decode cX10_box 81 = .ok (.iinc 4 1, 3) := by decide +kernel
theorem dX10_box_84 : decode cX10_box 84 = .ok (.goto (-33), 3) := by decide +kernel
theorem dX10_box_87 : decode cX10_box 87 = .ok (.aload_n 0, 1) := by decide +kernel
theorem dX10_box_88 : decode cX10_box 88 = .ok (.iconst 0, 1) := by decide +kernel
theorem dX10_box_89 : decode cX10_box 89 = .ok (.putfield 138, 3) := by decide +kernel
theorem dX10_box_92 : decode cX10_box 92 = .ok (.aload_n 0, 1) := by decide +kernel
theorem dX10_box_93 : decode cX10_box 93 = .ok (.iconst 0, 1) := by decide +kernel
theorem dX10_box_94 : decode cX10_box 94 = .ok (.putfield 141, 3) := by decide +kernel
theorem dX10_box_97 : decode cX10_box 97 = .ok (.aload_n 0, 1) := by decide +kernel
theorem dX10_box_98 : decode cX10_box 98 = .ok (.getfield 32, 3) := by decide +kernel
theorem dX10_box_101 : decode cX10_box 101 = .ok (.iload_n 1, 1) := by decide +kernel
theorem dX10_box_102 : decode cX10_box 102 = .ok (.iaload, 1) := by decide +kernel
theorem dX10_box_103 : decode cX10_box 103 = .ok (.ireturn, 1) := by decide +kernel
theorem dX10_words_0 : decode cX10_words 0 = .ok (.aload_n 0, 1) := by decide +kernel
theorem dX10_words_1 : decode cX10_words 1 = .ok (.getfield 32, 3) := by decide +kernel
theorem dX10_words_4 : decode cX10_words 4 = .ok (.iconst 0, 1) := by decide +kernel
theorem dX10_words_5 : decode cX10_words 5 = .ok (.iaload, 1) := by decide +kernel
theorem dX10_words_6 : decode cX10_words 6 = .ok (.ireturn, 1) := by decide +kernel
theorem dX10_isLand_0 : decode cX10_isLand 0 = .ok (.aload_n 0, 1) := by decide +kernel
theorem dX10_isLand_1 : decode cX10_isLand 1 = .ok (.getfield 32, 3) := by decide +kernel
theorem dX10_isLand_4 : decode cX10_isLand 4 = .ok (.iconst 0, 1) := by decide +kernel
theorem dX10_isLand_5 : decode cX10_isLand 5 = .ok (.iaload, 1) := by decide +kernel
theorem dX10_isLand_6 : decode cX10_isLand 6 = .ok (.ifCond .le 22, 3) := by decide +kernel
theorem dX10_isLand_9 : decode cX10_isLand 9 = .ok (.aload_n 0, 1) := by decide +kernel
theorem dX10_isLand_10 : decode cX10_isLand 10 = .ok (.getfield 32, 3) := by decide +kernel
theorem dX10_isLand_13 : decode cX10_isLand 13 = .ok (.iload_n 1, 1) := by decide +kernel
theorem dX10_isLand_14 : decode cX10_isLand 14 = .ok (.iaload, 1) := by decide +kernel
theorem dX10_isLand_15 : decode cX10_isLand 15 = .ok (.aload_n 0, 1) := by decide +kernel
theorem dX10_isLand_16 : decode cX10_isLand 16 = .ok (.getfield 32, 3) := by decide +kernel
theorem dX10_isLand_19 : decode cX10_isLand 19 = .ok (.iconst 0, 1) := by decide +kernel
theorem dX10_isLand_20 : decode cX10_isLand 20 = .ok (.iaload, 1) := by decide +kernel
theorem dX10_isLand_21 : decode cX10_isLand 21 = .ok (.if_icmp .ne 7, 3) := by decide +kernel
theorem dX10_isLand_24 : decode cX10_isLand 24 = .ok (.iconst 1, 1) := by decide +kernel
theorem dX10_isLand_25 : decode cX10_isLand 25 = .ok (.goto 4, 3) := by decide +kernel
theorem dX10_isLand_28 : decode cX10_isLand 28 = .ok (.iconst 0, 1) := by decide +kernel
theorem dX10_isLand_29 : decode cX10_isLand 29 = .ok (.ireturn, 1) := by decide +kernel
theorem dX10_isWord_0 : decode cX10_isWord 0 = .ok (.iload_n 1, 1) := by decide +kernel
theorem dX10_isWord_1 : decode cX10_isWord 1 = .ok (.iconst 0, 1) := by decide +kernel
theorem dX10_isWord_2 : decode cX10_isWord 2 = .ok (.aload_n 0, 1) := by decide +kernel
theorem dX10_isWord_3 : decode cX10_isWord 3 = .ok (.invokevirtual 144, 3) := by decide +kernel
theorem dX10_isWord_6 : decode cX10_isWord 6 = .ok (.iconst 1, 1) := by decide +kernel
theorem dX10_isWord_7 : decode cX10_isWord 7 = .ok (.isub, 1) := by decide +kernel
theorem dX10_isWord_8 : decode cX10_isWord 8 = .ok (.invokestatic 91, 3) := by decide +kernel
theorem dX10_isWord_11 : decode cX10_isWord 11 = .ok (.ireturn, 1) := by decide +kernel
theorem dX10_use_0 : decode cX10_use 0 = .ok (.aload_n 0, 1) := by decide +kernel
theorem dX10_use_1 : decode cX10_use 1 = .ok (.getfield 35, 3) := by decide +kernel
theorem dX10_use_4 : decode cX10_use 4 = .ok (.bipush 80, 2) := by decide +kernel
theorem dX10_use_6 : decode cX10_use 6 = .ok (.iload_n 1, 1) := by decide +kernel
theorem dX10_use_7 : decode cX10_use 7 = .ok (.imul, 1) := by decide +kernel
theorem dX10_use_8 : decode cX10_use 8 = .ok (.bipush 10, 2) := by decide +kernel
theorem dX10_use_10 : decode cX10_use 10 = .ok (.iload_n 2, 1) := by decide +kernel
theorem dX10_use_11 : decode cX10_use 11 = .ok (.imul, 1) := by decide +kernel
theorem dX10_use_12 : decode cX10_use 12 = .ok (.iadd, 1) := by decide +kernel
theorem dX10_use_13 : decode cX10_use 13 = .ok (.iload_n 3, 1) := by decide +kernel
theorem dX10_use_14 : decode cX10_use 14 = .ok (.iadd, 1) := by decide +kernel
theorem dX10_use_15 : decode cX10_use 15 = .ok (.iaload, 1) := by decide +kernel
theorem dX10_use_16 : decode cX10_use 16 = .ok (.ireturn, 1) := by decide +kernel
theorem dX10_usual_0 : decode cX10_usual 0 = .ok (.iload_n 1, 1) := by decide +kernel
theorem dX10_usual_1 : decode cX10_usual 1 = .ok (.iconst 0, 1) := by decide +kernel
theorem dX10_usual_2 : decode cX10_usual 2 = .ok (.iconst 1, 1) := by decide +kernel
theorem dX10_usual_3 : decode cX10_usual 3 = .ok (.invokestatic 91, 3) := by decide +kernel
theorem dX10_usual_6 : decode cX10_usual 6 = .ok (.ifCond .eq 23, 3) := by decide +kernel
theorem dX10_usual_9 : decode cX10_usual 9 = .ok (.iload_n 2, 1) := by decide +kernel
theorem dX10_usual_10 : decode cX10_usual 10 = .ok (.iconst 0, 1) := by decide +kernel
theorem dX10_usual_11 : decode cX10_usual 11 = .ok (.bipush 7, 2) := by decide +kernel
theorem dX10_usual_13 : decode cX10_usual 13 = .ok (.invokestatic 91, 3) := by decide +kernel
theorem dX10_usual_16 : decode cX10_usual 16 = .ok (.ifCond .eq 13, 3) := by decide +kernel
theorem dX10_usual_19 : decode cX10_usual 19 = .ok (.iload_n 3, 1) := by decide +kernel
theorem dX10_usual_20 : decode cX10_usual 20 = .ok (.iconst 0, 1) := by decide +kernel
theorem dX10_usual_21 : decode cX10_usual 21 = .ok (.bipush 9, 2) := by decide +kernel
theorem dX10_usual_23 : decode cX10_usual 23 = .ok (.invokestatic 91, 3) := by decide +kernel
theorem dX10_usual_26 : decode cX10_usual 26 = .ok (.ifCond .ne 5, 3) := by decide +kernel
theorem dX10_usual_29 : decode cX10_usual 29 = .ok (.iconst (-1), 1) := by decide +kernel
theorem dX10_usual_30 : decode cX10_usual 30 = .ok (.ireturn, 1) := by decide +kernel
theorem dX10_usual_31 : decode cX10_usual 31 = .ok (.aload_n 0, 1) := by decide +kernel
theorem dX10_usual_32 : decode cX10_usual 32 = .ok (.iload_n 1, 1) := by decide +kernel
theorem dX10_usual_33 : decode cX10_usual 33 = .ok (.invokevirtual 148, 3) := by decide +kernel
theorem dX10_usual_36 : decode cX10_usual 36 = .ok (.ifCond .ne 9, 3) := by decide +kernel
theorem dX10_usual_39 : decode cX10_usual 39 = .ok (.aload_n 0, 1) := by decide +kernel
theorem dX10_usual_40 : decode cX10_usual 40 = .ok (.iconst 1, 1) := by decide +kernel
theorem dX10_usual_41 : decode cX10_usual 41 = .ok (.invokevirtual 99, 3) := by decide +kernel
theorem dX10_usual_44 : decode cX10_usual 44 = .ok (.ireturn, 1) := by decide +kernel
theorem dX10_usual_45 : decode cX10_usual 45 = .ok (.aload_n 0, 1) := by decide +kernel
theorem dX10_usual_46 : decode cX10_usual 46 = .ok (.iload_n 2, 1) := by decide +kernel
theorem dX10_usual_47 : decode cX10_usual 47 = .ok (.invokevirtual 151, 3) := by decide +kernel
theorem dX10_usual_50 : decode cX10_usual 50 = .ok (.ifCond .eq 13, 3) := by decide +kernel
theorem dX10_usual_53 : decode cX10_usual 53 = .ok (.aload_n 0, 1) := by decide +kernel
theorem dX10_usual_54 : decode cX10_usual 54 = .ok (.iload_n 1, 1) := by decide +kernel
theorem dX10_usual_55 : decode cX10_usual 55 = .ok (.iload_n 2, 1) := by decide +kernel
theorem dX10_usual_56 : decode cX10_usual 56 = .ok (.iload_n 3, 1) := by decide +kernel
theorem dX10_usual_57 : decode cX10_usual 57 = .ok (.invokevirtual 154, 3) := by decide +kernel
theorem dX10_usual_60 : decode cX10_usual 60 = .ok (.goto 4, 3) := by decide +kernel
theorem dX10_usual_63 : decode cX10_usual 63 = .ok (.iconst (-1), 1) := by decide +kernel
theorem dX10_usual_64 : decode cX10_usual 64 = .ok (.ireturn, 1) := by decide +kernel
theorem dX10_isPlayer_0 : decode cX10_isPlayer 0 = .ok (.iload_n 1, 1) := by decide +kernel
theorem dX10_isPlayer_1 : decode cX10_isPlayer 1 = .ok (.iconst 0, 1) := by decide +kernel
theorem dX10_isPlayer_2 : decode cX10_isPlayer 2 = .ok (.aload_n 0, 1) := by decide +kernel
theorem dX10_isPlayer_3 : decode cX10_isPlayer 3 = .ok (.getfield 138, 3) := by decide +kernel
theorem dX10_isPlayer_6 : decode cX10_isPlayer 6 = .ok (.iconst 1, 1) := by decide +kernel
theorem dX10_isPlayer_7 : decode cX10_isPlayer 7 = .ok (.isub, 1) := by decide +kernel
theorem dX10_isPlayer_8 : decode cX10_isPlayer 8 = .ok (.invokestatic 91, 3) := by decide +kernel
theorem dX10_isPlayer_11 : decode cX10_isPlayer 11 = .ok (.ireturn, 1) := by decide +kernel
theorem dX10_tell_0 : decode cX10_tell 0 = .ok (.aload_n 0, 1) := by decide +kernel
theorem dX10_tell_1 : decode cX10_tell 1 = .ok (.getfield 38, 3) := by decide +kernel
theorem dX10_tell_4 : decode cX10_tell 4 = .ok (.iconst 4, 1) := by decide +kernel
theorem dX10_tell_5 : decode cX10_tell 5 = .ok (.iload_n 1, 1) := by decide +kernel
theorem dX10_tell_6 : decode cX10_tell 6 = .ok (.imul, 1) := by decide +kernel
theorem dX10_tell_7 : decode cX10_tell 7 = .ok (.iload_n 2, 1) := by decide +kernel
theorem dX10_tell_8 : decode cX10_tell 8 = .ok (.iadd, 1) := by decide +kernel
theorem dX10_tell_9 : decode cX10_tell 9 = .ok (.iaload, 1) := by decide +kernel
theorem dX10_tell_10 : decode cX10_tell 10 = .ok (.ireturn, 1) := by decide +kernel
theorem dX10_setPlayer_0 : decode cX10_setPlayer 0 = .ok (.aload_n 0, 1) := by decide +kernel
theorem dX10_setPlayer_1 : decode cX10_setPlayer 1 = .ok (.getfield 38, 3) := by decide +kernel
theorem dX10_setPlayer_4 : decode cX10_setPlayer 4 = .ok (.iconst 4, 1) := by decide +kernel
theorem dX10_setPlayer_5 : decode cX10_setPlayer 5 = .ok (.iload_n 1, 1) := by decide +kernel
theorem dX10_setPlayer_6 : decode cX10_setPlayer 6 = .ok (.imul, 1) := by decide +kernel
theorem dX10_setPlayer_7 : decode cX10_setPlayer 7 = .ok (.iload_n 2, 1) := by decide +kernel
theorem dX10_setPlayer_8 : decode cX10_setPlayer 8 = .ok (.iastore, 1) := by decide +kernel
theorem dX10_setPlayer_9 : decode cX10_setPlayer 9 = .ok (.aload_n 0, 1) := by decide +kernel
theorem dX10_setPlayer_10 : decode cX10_setPlayer 10 = .ok (.getfield 38, 3) := by decide +kernel
theorem dX10_setPlayer_13 : decode cX10_setPlayer 13 = .ok (.iconst 4, 1) := by decide +kernel
theorem dX10_setPlayer_14 : decode cX10_setPlayer 14 = .ok (.iload_n 1, 1) := by decide +kernel
theorem dX10_setPlayer_15 : decode cX10_setPlayer 15 = .ok (.imul, 1) := by decide +kernel
theorem dX10_setPlayer_16 : decode cX10_setPlayer 16 = .ok (.iconst 1, 1) := by decide +kernel
theorem dX10_setPlayer_17 : decode cX10_setPlayer 17 = .ok (.iadd, 1) := by decide +kernel
theorem dX10_setPlayer_18 : decode cX10_setPlayer 18 = .ok (.iload_n 3, 1) := by decide +kernel
theorem dX10_setPlayer_19 : decode cX10_setPlayer 19 = .ok (.iastore, 1) := by decide +kernel
theorem dX10_setPlayer_20 : decode cX10_setPlayer 20 = .ok (.aload_n 0, 1) := by decide +kernel
theorem dX10_setPlayer_21 : decode cX10_setPlayer 21 = .ok (.getfield 38, 3) := by decide +kernel
theorem dX10_setPlayer_24 : decode cX10_setPlayer 24 = .ok (.iconst 4, 1) := by decide +kernel
theorem dX10_setPlayer_25 : decode cX10_setPlayer 25 = .ok (.iload_n 1, 1) := by decide +kernel
theorem dX10_setPlayer_26 : decode cX10_setPlayer 26 = .ok (.imul, 1) := by decide +kernel
theorem dX10_setPlayer_27 : decode cX10_setPlayer 27 = .ok (.iconst 2, 1) := by decide +kernel
theorem dX10_setPlayer_28 : decode cX10_setPlayer 28 = .ok (.iadd, 1) := by decide +kernel
theorem dX10_setPlayer_29 : decode cX10_setPlayer 29 = .ok (.iload 4, 2) := by decide +kernel
theorem dX10_setPlayer_31 : decode cX10_setPlayer 31 = .ok (.iastore, 1) := by decide +kernel
theorem dX10_setPlayer_32 : decode cX10_setPlayer 32 = .ok (.aload_n 0, 1) := by decide +kernel
theorem dX10_setPlayer_33 : decode cX10_setPlayer 33 = .ok (.getfield 38, 3) := by decide +kernel
theorem dX10_setPlayer_36 : decode cX10_setPlayer 36 = .ok (.iconst 4, 1) := by decide +kernel
theorem dX10_setPlayer_37 : decode cX10_setPlayer 37 = .ok (.iload_n 1, 1) := by decide +kernel
theorem dX10_setPlayer_38 : decode cX10_setPlayer 38 = .ok (.imul, 1) := by decide +kernel
theorem dX10_setPlayer_39 : decode cX10_setPlayer 39 = .ok (.iconst 3, 1) := by decide +kernel
theorem dX10_setPlayer_40 : decode cX10_setPlayer 40 = .ok (.iadd, 1) := by decide +kernel
theorem dX10_setPlayer_41 : decode cX10_setPlayer 41 = .ok (.iload 5, 2) := by decide +kernel
theorem dX10_setPlayer_43 : decode cX10_setPlayer 43 = .ok (.iastore, 1) := by decide +kernel
theorem dX10_setPlayer_44 : decode cX10_setPlayer 44 = .ok (.return_, 1) := by decide +kernel
theorem dX10_player_0 : decode cX10_player 0 = .ok (.iload_n 1, 1) := by decide +kernel
theorem dX10_player_1 : decode cX10_player 1 = .ok (.iconst 0, 1) := by decide +kernel
theorem dX10_player_2 : decode cX10_player 2 = .ok (.iconst 5, 1) := by decide +kernel
theorem dX10_player_3 : decode cX10_player 3 = .ok (.invokestatic 91, 3) := by decide +kernel
theorem dX10_player_6 : decode cX10_player 6 = .ok (.ifCond .eq 33, 3) := by decide +kernel
theorem dX10_player_9 : decode cX10_player 9 = .ok (.iload_n 2, 1) := by decide +kernel
theorem dX10_player_10 : decode cX10_player 10 = .ok (.iconst 0, 1) := by decide +kernel
theorem dX10_player_11 : decode cX10_player 11 = .ok (.iconst 1, 1) := by decide +kernel
theorem dX10_player_12 : decode cX10_player 12 = .ok (.invokestatic 91, 3) := by decide +kernel
theorem dX10_player_15 : decode cX10_player 15 = .ok (.ifCond .eq 24, 3) := by decide +kernel
theorem dX10_player_18 : decode cX10_player 18 = .ok (.iload_n 3, 1) := by decide +kernel
theorem dX10_player_19 : decode cX10_player 19 = .ok (.iconst 1, 1) := by decide +kernel
theorem dX10_player_20 : decode cX10_player 20 = .ok (.bipush 6, 2) := by decide +kernel
theorem dX10_player_22 : decode cX10_player 22 = .ok (.invokestatic 91, 3) := by decide +kernel
theorem dX10_player_25 : decode cX10_player 25 = .ok (.ifCond .eq 14, 3) := by decide +kernel
theorem dX10_player_28 : decode cX10_player 28 = .ok (.iload 4, 2) := by decide +kernel
theorem dX10_player_30 : decode cX10_player 30 = .ok (.iconst 0, 1) := by decide +kernel
theorem dX10_player_31 : decode cX10_player 31 = .ok (.bipush 7, 2) := by decide +kernel
theorem dX10_player_33 : decode cX10_player 33 = .ok (.invokestatic 91, 3) := by decide +kernel
theorem dX10_player_36 : decode cX10_player 36 = .ok (.ifCond .ne 5, 3) := by decide +kernel
theorem dX10_player_39 : decode cX10_player 39 = .ok (.iconst (-1), 1) := by decide +kernel
theorem dX10_player_40 : decode cX10_player 40 = .ok (.ireturn, 1) := by decide +kernel
theorem dX10_player_41 : decode cX10_player 41 = .ok (.aload_n 0, 1) := by decide +kernel
theorem dX10_player_42 : decode cX10_player 42 = .ok (.iload_n 2, 1) := by decide +kernel
theorem dX10_player_43 : decode cX10_player 43 = .ok (.invokevirtual 148, 3) := by decide +kernel
theorem dX10_player_46 : decode cX10_player 46 = .ok (.ifCond .ne 9, 3) := by decide +kernel
theorem dX10_player_49 : decode cX10_player 49 = .ok (.aload_n 0, 1) := by decide +kernel
theorem dX10_player_50 : decode cX10_player 50 = .ok (.iconst 1, 1) := by decide +kernel
theorem dX10_player_51 : decode cX10_player 51 = .ok (.invokevirtual 99, 3) := by decide +kernel
theorem dX10_player_54 : decode cX10_player 54 = .ok (.ireturn, 1) := by decide +kernel
theorem dX10_player_55 : decode cX10_player 55 = .ok (.aload_n 0, 1) := by decide +kernel
theorem dX10_player_56 : decode cX10_player 56 = .ok (.iload 4, 2) := by decide +kernel
theorem dX10_player_58 : decode cX10_player 58 = .ok (.invokevirtual 151, 3) := by decide +kernel
theorem dX10_player_61 : decode cX10_player 61 = .ok (.ifCond .ne 5, 3) := by decide +kernel
theorem dX10_player_64 : decode cX10_player 64 = .ok (.iconst (-1), 1) := by decide +kernel
theorem dX10_player_65 : decode cX10_player 65 = .ok (.ireturn, 1) := by decide +kernel
theorem dX10_player_66 : decode cX10_player 66 = .ok (.aload_n 0, 1) := by decide +kernel
theorem dX10_player_67 : decode cX10_player 67 = .ok (.getfield 138, 3) := by decide +kernel
theorem dX10_player_70 : decode cX10_player 70 = .ok (.bipush 8, 2) := by decide +kernel
theorem dX10_player_72 : decode cX10_player 72 = .ok (.if_icmp .ne 6, 3) := by decide +kernel
theorem dX10_player_75 : decode cX10_player 75 = .ok (.bipush (-2), 2) := by decide +kernel
theorem dX10_player_77 : decode cX10_player 77 = .ok (.ireturn, 1) := by decide +kernel
theorem dX10_player_78 : decode cX10_player 78 = .ok (.aload_n 0, 1) := by decide +kernel
theorem dX10_player_79 : decode cX10_player 79 = .ok (.aload_n 0, 1) := by decide +kernel
theorem dX10_player_80 : decode cX10_player 80 = .ok (.getfield 138, 3) := by decide +kernel
theorem dX10_player_83 : decode cX10_player 83 = .ok (.iload_n 1, 1) := by decide +kernel
theorem dX10_player_84 : decode cX10_player 84 = .ok (.iload_n 2, 1) := by decide +kernel
theorem dX10_player_85 : decode cX10_player 85 = .ok (.iload_n 3, 1) := by decide +kernel
theorem dX10_player_86 : decode cX10_player 86 = .ok (.iload 4, 2) := by decide +kernel
theorem dX10_player_88 : decode cX10_player 88 = .ok (.invokevirtual 158, 3) := by decide +kernel
theorem dX10_player_91 : decode cX10_player 91 = .ok (.aload_n 0, 1) := by decide +kernel
theorem dX10_player_92 : decode cX10_player 92 = .ok (.dup, 1) := by decide +kernel
theorem dX10_player_93 : decode cX10_player 93 = .ok (.getfield 138, 3) := by decide +kernel
theorem dX10_player_96 : decode cX10_player 96 = .ok (.iconst 1, 1) := by decide +kernel
theorem dX10_player_97 : decode cX10_player 97 = .ok (.iadd, 1) := by decide +kernel
theorem dX10_player_98 : decode cX10_player 98 = .ok (.putfield 138, 3) := by decide +kernel
theorem dX10_player_101 : decode cX10_player 101 = .ok (.aload_n 0, 1) := by decide +kernel
theorem dX10_player_102 : decode cX10_player 102 = .ok (.getfield 138, 3) := by decide +kernel
theorem dX10_player_105 : decode cX10_player 105 = .ok (.iconst 1, 1) := by decide +kernel
theorem dX10_player_106 : decode cX10_player 106 = .ok (.isub, 1) := by decide +kernel
theorem dX10_player_107 : decode cX10_player 107 = .ok (.ireturn, 1) := by decide +kernel
theorem dX10_about_0 : decode cX10_about 0 = .ok (.aload_n 0, 1) := by decide +kernel
theorem dX10_about_1 : decode cX10_about 1 = .ok (.iload_n 1, 1) := by decide +kernel
theorem dX10_about_2 : decode cX10_about 2 = .ok (.invokevirtual 162, 3) := by decide +kernel
theorem dX10_about_5 : decode cX10_about 5 = .ok (.ifCond .eq 26, 3) := by decide +kernel
theorem dX10_about_8 : decode cX10_about 8 = .ok (.iload_n 2, 1) := by decide +kernel
theorem dX10_about_9 : decode cX10_about 9 = .ok (.iconst 0, 1) := by decide +kernel
theorem dX10_about_10 : decode cX10_about 10 = .ok (.iconst 3, 1) := by decide +kernel
theorem dX10_about_11 : decode cX10_about 11 = .ok (.invokestatic 91, 3) := by decide +kernel
theorem dX10_about_14 : decode cX10_about 14 = .ok (.ifCond .eq 17, 3) := by decide +kernel
theorem dX10_about_17 : decode cX10_about 17 = .ok (.aload_n 0, 1) := by decide +kernel
theorem dX10_about_18 : decode cX10_about 18 = .ok (.aload_n 0, 1) := by decide +kernel
theorem dX10_about_19 : decode cX10_about 19 = .ok (.iload_n 1, 1) := by decide +kernel
theorem dX10_about_20 : decode cX10_about 20 = .ok (.iload_n 2, 1) := by decide +kernel
theorem dX10_about_21 : decode cX10_about 21 = .ok (.invokevirtual 165, 3) := by decide +kernel
theorem dX10_about_24 : decode cX10_about 24 = .ok (.iconst 1, 1) := by decide +kernel
theorem dX10_about_25 : decode cX10_about 25 = .ok (.invokevirtual 117, 3) := by decide +kernel
theorem dX10_about_28 : decode cX10_about 28 = .ok (.goto 4, 3) := by decide +kernel
theorem dX10_about_31 : decode cX10_about 31 = .ok (.iconst (-1), 1) := by decide +kernel
theorem dX10_about_32 : decode cX10_about 32 = .ok (.ireturn, 1) := by decide +kernel
theorem dX10_isSloppy_0 : decode cX10_isSloppy 0 = .ok (.aload_n 0, 1) := by decide +kernel
theorem dX10_isSloppy_1 : decode cX10_isSloppy 1 = .ok (.iload_n 1, 1) := by decide +kernel
theorem dX10_isSloppy_2 : decode cX10_isSloppy 2 = .ok (.iconst 0, 1) := by decide +kernel
theorem dX10_isSloppy_3 : decode cX10_isSloppy 3 = .ok (.invokevirtual 165, 3) := by decide +kernel
theorem dX10_isSloppy_6 : decode cX10_isSloppy 6 = .ok (.iconst 1, 1) := by decide +kernel
theorem dX10_isSloppy_7 : decode cX10_isSloppy 7 = .ok (.if_icmp .eq 13, 3) := by decide +kernel
theorem dX10_isSloppy_10 : decode cX10_isSloppy 10 = .ok (.aload_n 0, 1) := by decide +kernel
theorem dX10_isSloppy_11 : decode cX10_isSloppy 11 = .ok (.iload_n 1, 1) := by decide +kernel
theorem dX10_isSloppy_12 : decode cX10_isSloppy 12 = .ok (.iconst 0, 1) := by decide +kernel
theorem dX10_isSloppy_13 : decode cX10_isSloppy 13 = .ok (.invokevirtual 165, 3) := by decide +kernel
theorem dX10_isSloppy_16 : decode cX10_isSloppy 16 = .ok (.iconst 4, 1) := by decide +kernel
theorem dX10_isSloppy_17 : decode cX10_isSloppy 17 = .ok (.if_icmp .ne 7, 3) := by decide +kernel
theorem dX10_isSloppy_20 : decode cX10_isSloppy 20 = .ok (.iconst 1, 1) := by decide +kernel
theorem dX10_isSloppy_21 : decode cX10_isSloppy 21 = .ok (.goto 4, 3) := by decide +kernel
theorem dX10_isSloppy_24 : decode cX10_isSloppy 24 = .ok (.iconst 0, 1) := by decide +kernel
theorem dX10_isSloppy_25 : decode cX10_isSloppy 25 = .ok (.ireturn, 1) := by decide +kernel
theorem dX10_setDrawing_0 : decode cX10_setDrawing 0 = .ok (.aload_n 0, 1) := by decide +kernel
theorem dX10_setDrawing_1 : decode cX10_setDrawing 1 = .ok (.iload_n 1, 1) := by decide +kernel
theorem dX10_setDrawing_2 : decode cX10_setDrawing 2 = .ok (.invokevirtual 168, 3) := by decide +kernel
theorem dX10_setDrawing_5 : decode cX10_setDrawing 5 = .ok (.ifCond .eq 24, 3) := by decide +kernel
theorem dX10_setDrawing_8 : decode cX10_setDrawing 8 = .ok (.aload_n 0, 1) := by decide +kernel
theorem dX10_setDrawing_9 : decode cX10_setDrawing 9 = .ok (.iload_n 1, 1) := by decide +kernel
theorem dX10_setDrawing_10 : decode cX10_setDrawing 10 = .ok (.iconst 2, 1) := by decide +kernel
theorem dX10_setDrawing_11 : decode cX10_setDrawing 11 = .ok (.invokevirtual 165, 3) := by decide +kernel
theorem dX10_setDrawing_14 : decode cX10_setDrawing 14 = .ok (.iconst 1, 1) := by decide +kernel
theorem dX10_setDrawing_15 : decode cX10_setDrawing 15 = .ok (.if_icmp .le 14, 3) := by decide +kernel
theorem dX10_setDrawing_18 : decode cX10_setDrawing 18 = .ok (.aload_n 0, 1) := by decide +kernel
theorem dX10_setDrawing_19 : decode cX10_setDrawing 19 = .ok (.iload_n 1, 1) := by decide +kernel
theorem dX10_setDrawing_20 : decode cX10_setDrawing 20 = .ok (.iconst 2, 1) := by decide +kernel
theorem dX10_setDrawing_21 : decode cX10_setDrawing 21 = .ok (.invokevirtual 165, 3) := by decide +kernel
theorem dX10_setDrawing_24 : decode cX10_setDrawing 24 = .ok (.iconst 1, 1) := by decide +kernel
theorem dX10_setDrawing_25 : decode cX10_setDrawing 25 = .ok (.isub, 1) := by decide +kernel
theorem dX10_setDrawing_26 : decode cX10_setDrawing 26 = .ok (.goto 9, 3) := by decide +kernel
theorem dX10_setDrawing_29 : decode cX10_setDrawing 29 = .ok (.aload_n 0, 1) := by decide +kernel
theorem dX10_setDrawing_30 : decode cX10_setDrawing 30 = .ok (.iload_n 1, 1) := by decide +kernel
theorem dX10_setDrawing_31 : decode cX10_setDrawing 31 = .ok (.iconst 2, 1) := by decide +kernel
theorem dX10_setDrawing_32 : decode cX10_setDrawing 32 = .ok (.invokevirtual 165, 3) := by decide +kernel
theorem dX10_setDrawing_35 : decode cX10_setDrawing 35 = .ok (.istore_n 3, 1) := by decide +kernel
theorem dX10_setDrawing_36 : decode cX10_setDrawing 36 = .ok (.aload_n 0, 1) := by decide +kernel
theorem dX10_setDrawing_37 : decode cX10_setDrawing 37 = .ok (.iconst 0, 1) := by decide +kernel
theorem dX10_setDrawing_38 : decode cX10_setDrawing 38 = .ok (.putfield 171, 3) := by decide +kernel
theorem dX10_setDrawing_41 : decode cX10_setDrawing 41 = .ok (.bipush 9, 2) := by decide +kernel
theorem dX10_setDrawing_43 : decode cX10_setDrawing 43 = .ok (.istore 4, 2) := by decide +kernel
theorem dX10_setDrawing_45 : decode cX10_setDrawing 45 = .ok (.iload 4, 2) := by decide +kernel
theorem dX10_setDrawing_47 : decode cX10_setDrawing 47 = .ok (.ifCond .le 72, 3) := by decide +kernel
theorem dX10_setDrawing_50 : decode cX10_setDrawing 50 = .ok (.iconst 0, 1) := by decide +kernel
theorem dX10_setDrawing_51 : decode cX10_setDrawing 51 = .ok (.istore 5, 2) := by decide +kernel
theorem dX10_setDrawing_53 : decode cX10_setDrawing 53 = .ok (.iload 5, 2) := by decide +kernel
theorem dX10_setDrawing_55 : decode cX10_setDrawing 55 = .ok (.bipush 10, 2) := by decide +kernel
theorem dX10_setDrawing_57 : decode cX10_setDrawing 57 = .ok (.if_icmp .ge 56, 3) := by decide +kernel
theorem dX10_setDrawing_60 : decode cX10_setDrawing 60 = .ok (.aload_n 0, 1) := by decide +kernel
theorem dX10_setDrawing_61 : decode cX10_setDrawing 61 = .ok (.getfield 171, 3) := by decide +kernel
theorem dX10_setDrawing_64 : decode cX10_setDrawing 64 = .ok (.iload_n 3, 1) := by decide +kernel
theorem dX10_setDrawing_65 : decode cX10_setDrawing 65 = .ok (.if_icmp .ge 48, 3) := by decide +kernel
theorem dX10_setDrawing_68 : decode cX10_setDrawing 68 = .ok (.aload_n 0, 1) := by decide +kernel
theorem dX10_setDrawing_69 : decode cX10_setDrawing 69 = .ok (.aload_n 0, 1) := by decide +kernel
theorem dX10_setDrawing_70 : decode cX10_setDrawing 70 = .ok (.iload_n 1, 1) := by decide +kernel
theorem dX10_setDrawing_71 : decode cX10_setDrawing 71 = .ok (.iconst 1, 1) := by decide +kernel
theorem dX10_setDrawing_72 : decode cX10_setDrawing 72 = .ok (.invokevirtual 165, 3) := by decide +kernel
theorem dX10_setDrawing_75 : decode cX10_setDrawing 75 = .ok (.iload_n 2, 1) := by decide +kernel
theorem dX10_setDrawing_76 : decode cX10_setDrawing 76 = .ok (.iload 5, 2) := by decide +kernel
theorem dX10_setDrawing_78 : decode cX10_setDrawing 78 = .ok (.invokevirtual 154, 3) := by decide +kernel
theorem dX10_setDrawing_81 : decode cX10_setDrawing 81 = .ok (.iload 4, 2) := by decide +kernel
theorem dX10_setDrawing_83 : decode cX10_setDrawing 83 = .ok (.if_icmp .ne 24, 3) := by decide +kernel
theorem dX10_setDrawing_86 : decode cX10_setDrawing 86 = .ok (.aload_n 0, 1) := by decide +kernel
theorem dX10_setDrawing_87 : decode cX10_setDrawing 87 = .ok (.getfield 41, 3) := by decide +kernel
theorem dX10_setDrawing_90 : decode cX10_setDrawing 90 = .ok (.aload_n 0, 1) := by decide +kernel
theorem dX10_setDrawing_91 : decode cX10_setDrawing 91 = .ok (.getfield 171, 3) := by decide +kernel
theorem dX10_setDrawing_94 : decode cX10_setDrawing 94 = .ok (.iload 5, 2) := by decide +kernel
theorem dX10_setDrawing_96 : decode cX10_setDrawing 96 = .ok (.iastore, 1) := by decide +kernel
theorem dX10_setDrawing_97 : decode cX10_setDrawing 97 = .ok (.aload_n 0, 1) := by decide +kernel
theorem dX10_setDrawing_98 : decode cX10_setDrawing 98 = .ok (.dup, 1) := by decide +kernel
theorem dX10_setDrawing_99 : decode cX10_setDrawing 99 = .ok (.getfield 171, 3) := by decide +kernel
theorem dX10_setDrawing_102 : decode cX10_setDrawing 102 = .ok (.iconst 1, 1) := by decide +kernel
theorem dX10_setDrawing_103 : decode cX10_setDrawing 103 = .ok (.iadd, 1) := by decide +kernel
theorem dX10_setDrawing_104 : decode cX10_setDrawing 104 = .ok (.putfield 171, 3) := by decide +kernel
theorem dX10_setDrawing_107 : decode cX10_setDrawing 107 = .ok (.iinc 5 1, 3) := by decide +kernel
theorem dX10_setDrawing_110 : decode cX10_setDrawing 110 = .ok (.goto (-57), 3) := by decide +kernel
theorem dX10_setDrawing_113 : decode cX10_setDrawing 113 = .ok (.iinc 4 (-1), 3) := by decide +kernel
theorem dX10_setDrawing_116 : decode cX10_setDrawing 116 = .ok (.goto (-71), 3) := by decide +kernel
theorem dX10_setDrawing_119 : decode cX10_setDrawing 119 = .ok (.return_, 1) := by decide +kernel
theorem dX10_drawingSet_0 : decode cX10_drawingSet 0 = .ok (.aload_n 0, 1) := by decide +kernel
theorem dX10_drawingSet_1 : decode cX10_drawingSet 1 = .ok (.iload_n 1, 1) := by decide +kernel
theorem dX10_drawingSet_2 : decode cX10_drawingSet 2 = .ok (.iload_n 2, 1) := by decide +kernel
theorem dX10_drawingSet_3 : decode cX10_drawingSet 3 = .ok (.invokevirtual 174, 3) := by decide +kernel
theorem dX10_drawingSet_6 : decode cX10_drawingSet 6 = .ok (.iconst 0, 1) := by decide +kernel
theorem dX10_drawingSet_7 : decode cX10_drawingSet 7 = .ok (.istore_n 3, 1) := by decide +kernel
theorem dX10_drawingSet_8 : decode cX10_drawingSet 8 = .ok (.iconst 0, 1) := by decide +kernel
theorem dX10_drawingSet_9 : decode cX10_drawingSet 9 = .ok (.istore 4, 2) := by decide +kernel
theorem dX10_drawingSet_11 : decode cX10_drawingSet 11 = .ok (.iload 4, 2) := by decide +kernel
theorem dX10_drawingSet_13 : decode cX10_drawingSet 13 = .ok (.aload_n 0, 1) := by decide +kernel
theorem dX10_drawingSet_14 : decode cX10_drawingSet 14 = .ok (.getfield 171, 3) := by decide +kernel
theorem dX10_drawingSet_17 : decode cX10_drawingSet 17 = .ok (.if_icmp .ge 21, 3) := by decide +kernel
theorem dX10_drawingSet_20 : decode cX10_drawingSet 20 = .ok (.iload_n 3, 1) := by decide +kernel
theorem dX10_drawingSet_21 : decode cX10_drawingSet 21 = .ok (.iconst 1, 1) := by decide +kernel
theorem dX10_drawingSet_22 : decode cX10_drawingSet 22 = .ok (.aload_n 0, 1) := by decide +kernel
theorem dX10_drawingSet_23 : decode cX10_drawingSet 23 = .ok (.getfield 41, 3) := by decide +kernel
theorem dX10_drawingSet_26 : decode cX10_drawingSet 26 = .ok (.iload 4, 2) := by decide +kernel
theorem dX10_drawingSet_28 : decode cX10_drawingSet 28 = .ok (.iaload, 1) := by decide +kernel
theorem dX10_drawingSet_29 : decode cX10_drawingSet 29 = .ok (.ishl, 1) := by decide +kernel
theorem dX10_drawingSet_30 : decode cX10_drawingSet 30 = .ok (.ior, 1) := by decide +kernel
theorem dX10_drawingSet_31 : decode cX10_drawingSet 31 = .ok (.istore_n 3, 1) := by decide +kernel
theorem dX10_drawingSet_32 : decode cX10_drawingSet 32 = .ok (.iinc 4 1, 3) := by decide +kernel
theorem dX10_drawingSet_35 : decode cX10_drawingSet 35 = .ok (.goto (-24), 3) := by decide +kernel
theorem dX10_drawingSet_38 : decode cX10_drawingSet 38 = .ok (.iload_n 3, 1) := by decide +kernel
theorem dX10_drawingSet_39 : decode cX10_drawingSet 39 = .ok (.ireturn, 1) := by decide +kernel
theorem dX10_sizeOf_0 : decode cX10_sizeOf 0 = .ok (.iconst 0, 1) := by decide +kernel
theorem dX10_sizeOf_1 : decode cX10_sizeOf 1 = .ok (.istore_n 1, 1) := by decide +kernel
theorem dX10_sizeOf_2 : decode cX10_sizeOf 2 = .ok (.iconst 0, 1) := by decide +kernel
theorem dX10_sizeOf_3 : decode cX10_sizeOf 3 = .ok (.istore_n 2, 1) := by decide +kernel
theorem dX10_sizeOf_4 : decode cX10_sizeOf 4 = .ok (.iload_n 2, 1) := by decide +kernel
theorem dX10_sizeOf_5 : decode cX10_sizeOf 5 = .ok (.bipush 10, 2) := by decide +kernel
theorem dX10_sizeOf_7 : decode cX10_sizeOf 7 = .ok (.if_icmp .ge 17, 3) := by decide +kernel
theorem dX10_sizeOf_10 : decode cX10_sizeOf 10 = .ok (.iload_n 1, 1) := by decide +kernel
theorem dX10_sizeOf_11 : decode cX10_sizeOf 11 = .ok (.iload_n 0, 1) := by decide +kernel
theorem dX10_sizeOf_12 : decode cX10_sizeOf 12 = .ok (.iload_n 2, 1) := by decide +kernel
theorem dX10_sizeOf_13 : decode cX10_sizeOf 13 = .ok (.ishr, 1) := by decide +kernel
theorem dX10_sizeOf_14 : decode cX10_sizeOf 14 = .ok (.iconst 1, 1) := by decide +kernel
theorem dX10_sizeOf_15 : decode cX10_sizeOf 15 = .ok (.iand, 1) := by decide +kernel
theorem dX10_sizeOf_16 : decode cX10_sizeOf 16 = .ok (.iadd, 1) := by decide +kernel
theorem dX10_sizeOf_17 : decode cX10_sizeOf 17 = .ok (.istore_n 1, 1) := by decide +kernel
theorem dX10_sizeOf_18 : decode cX10_sizeOf 18 = .ok (.iinc 2 1, 3) := by decide +kernel
theorem dX10_sizeOf_21 : decode cX10_sizeOf 21 = .ok (.goto (-17), 3) := by decide +kernel
theorem dX10_sizeOf_24 : decode cX10_sizeOf 24 = .ok (.iload_n 1, 1) := by decide +kernel
theorem dX10_sizeOf_25 : decode cX10_sizeOf 25 = .ok (.ireturn, 1) := by decide +kernel
theorem dX10_sumOf_0 : decode cX10_sumOf 0 = .ok (.aload_n 0, 1) := by decide +kernel
theorem dX10_sumOf_1 : decode cX10_sumOf 1 = .ok (.iload_n 1, 1) := by decide +kernel
theorem dX10_sumOf_2 : decode cX10_sumOf 2 = .ok (.iconst 0, 1) := by decide +kernel
theorem dX10_sumOf_3 : decode cX10_sumOf 3 = .ok (.invokevirtual 165, 3) := by decide +kernel
theorem dX10_sumOf_6 : decode cX10_sumOf 6 = .ok (.istore 4, 2) := by decide +kernel
theorem dX10_sumOf_8 : decode cX10_sumOf 8 = .ok (.iload 4, 2) := by decide +kernel
theorem dX10_sumOf_10 : decode cX10_sumOf 10 = .ok (.iconst 2, 1) := by decide +kernel
theorem dX10_sumOf_11 : decode cX10_sumOf 11 = .ok (.if_icmp .ne 18, 3) := by decide +kernel
theorem dX10_sumOf_14 : decode cX10_sumOf 14 = .ok (.iload_n 2, 1) := by decide +kernel
theorem dX10_sumOf_15 : decode cX10_sumOf 15 = .ok (.aload_n 0, 1) := by decide +kernel
theorem dX10_sumOf_16 : decode cX10_sumOf 16 = .ok (.iload_n 1, 1) := by decide +kernel
theorem dX10_sumOf_17 : decode cX10_sumOf 17 = .ok (.iconst 3, 1) := by decide +kernel
theorem dX10_sumOf_18 : decode cX10_sumOf 18 = .ok (.invokevirtual 165, 3) := by decide +kernel
theorem dX10_sumOf_21 : decode cX10_sumOf 21 = .ok (.if_icmp .ne 8, 3) := by decide +kernel
theorem dX10_sumOf_24 : decode cX10_sumOf 24 = .ok (.bipush 9, 2) := by decide +kernel
theorem dX10_sumOf_26 : decode cX10_sumOf 26 = .ok (.goto 4, 3) := by decide +kernel
theorem dX10_sumOf_29 : decode cX10_sumOf 29 = .ok (.iconst 0, 1) := by decide +kernel
theorem dX10_sumOf_30 : decode cX10_sumOf 30 = .ok (.istore 5, 2) := by decide +kernel
theorem dX10_sumOf_32 : decode cX10_sumOf 32 = .ok (.iload 4, 2) := by decide +kernel
theorem dX10_sumOf_34 : decode cX10_sumOf 34 = .ok (.iconst 3, 1) := by decide +kernel
theorem dX10_sumOf_35 : decode cX10_sumOf 35 = .ok (.if_icmp .ne 7, 3) := by decide +kernel
theorem dX10_sumOf_38 : decode cX10_sumOf 38 = .ok (.iconst 1, 1) := by decide +kernel
theorem dX10_sumOf_39 : decode cX10_sumOf 39 = .ok (.goto 7, 3) := by decide +kernel
theorem dX10_sumOf_42 : decode cX10_sumOf 42 = .ok (.aload_n 0, 1) := by decide +kernel
theorem dX10_sumOf_43 : decode cX10_sumOf 43 = .ok (.getfield 178, 3) := by decide +kernel
theorem dX10_sumOf_46 : decode cX10_sumOf 46 = .ok (.istore 6, 2) := by decide +kernel
theorem dX10_sumOf_48 : decode cX10_sumOf 48 = .ok (.iload 4, 2) := by decide +kernel
theorem dX10_sumOf_50 : decode cX10_sumOf 50 = .ok (.iconst 5, 1) := by decide +kernel
theorem dX10_sumOf_51 : decode cX10_sumOf 51 = .ok (.if_icmp .ne 16, 3) := by decide +kernel
theorem dX10_sumOf_54 : decode cX10_sumOf 54 = .ok (.iload_n 3, 1) := by decide +kernel
theorem dX10_sumOf_55 : decode cX10_sumOf 55 = .ok (.ifCond .lt 12, 3) := by decide +kernel
theorem dX10_sumOf_58 : decode cX10_sumOf 58 = .ok (.aload_n 0, 1) := by decide +kernel
theorem dX10_sumOf_59 : decode cX10_sumOf 59 = .ok (.iload_n 3, 1) := by decide +kernel
theorem dX10_sumOf_60 : decode cX10_sumOf 60 = .ok (.iload_n 2, 1) := by decide +kernel
theorem dX10_sumOf_61 : decode cX10_sumOf 61 = .ok (.invokevirtual 181, 3) := by decide +kernel
theorem dX10_sumOf_64 : decode cX10_sumOf 64 = .ok (.goto 4, 3) := by decide +kernel
theorem dX10_sumOf_67 : decode cX10_sumOf 67 = .ok (.iconst 0, 1) := by decide +kernel
theorem dX10_sumOf_68 : decode cX10_sumOf 68 = .ok (.istore 7, 2) := by decide +kernel
theorem dX10_sumOf_70 : decode cX10_sumOf 70 = .ok (.iconst 0, 1) := by decide +kernel
theorem dX10_sumOf_71 : decode cX10_sumOf 71 = .ok (.istore 8, 2) := by decide +kernel
theorem dX10_sumOf_73 : decode cX10_sumOf 73 = .ok (.iload 8, 2) := by decide +kernel
theorem dX10_sumOf_75 : decode cX10_sumOf 75 = .ok (.iload 6, 2) := by decide +kernel
theorem dX10_sumOf_77 : decode cX10_sumOf 77 = .ok (.if_icmp .ge 77, 3) := by decide +kernel
theorem dX10_sumOf_80 : decode cX10_sumOf 80 = .ok (.iload 5, 2) := by decide +kernel
theorem dX10_sumOf_82 : decode cX10_sumOf 82 = .ok (.aload_n 0, 1) := by decide +kernel
theorem dX10_sumOf_83 : decode cX10_sumOf 83 = .ok (.aload_n 0, 1) := by decide +kernel
theorem dX10_sumOf_84 : decode cX10_sumOf 84 = .ok (.iload_n 1, 1) := by decide +kernel
theorem dX10_sumOf_85 : decode cX10_sumOf 85 = .ok (.iconst 1, 1) := by decide +kernel
theorem dX10_sumOf_86 : decode cX10_sumOf 86 = .ok (.invokevirtual 165, 3) := by decide +kernel
theorem dX10_sumOf_89 : decode cX10_sumOf 89 = .ok (.iload_n 2, 1) := by decide +kernel
theorem dX10_sumOf_90 : decode cX10_sumOf 90 = .ok (.iload 4, 2) := by decide +kernel
theorem dX10_sumOf_92 : decode cX10_sumOf 92 = .ok (.iconst 4, 1) := by decide +kernel
theorem dX10_sumOf_93 : decode cX10_sumOf 93 = .ok (.if_icmp .ne 16, 3) := by decide +kernel
theorem dX10_sumOf_96 : decode cX10_sumOf 96 = .ok (.bipush 9, 2) := by decide +kernel
theorem dX10_sumOf_98 : decode cX10_sumOf 98 = .ok (.aload_n 0, 1) := by decide +kernel
theorem dX10_sumOf_99 : decode cX10_sumOf 99 = .ok (.getfield 44, 3) := by decide +kernel
theorem dX10_sumOf_102 : decode cX10_sumOf 102 = .ok (.iload 8, 2) := by decide +kernel
theorem dX10_sumOf_104 : decode cX10_sumOf 104 = .ok (.iaload, 1) := by decide +kernel
theorem dX10_sumOf_105 : decode cX10_sumOf 105 = .ok (.isub, 1) := by decide +kernel
theorem dX10_sumOf_106 : decode cX10_sumOf 106 = .ok (.goto 10, 3) := by decide +kernel
theorem dX10_sumOf_109 : decode cX10_sumOf 109 = .ok (.aload_n 0, 1) := by decide +kernel
theorem dX10_sumOf_110 : decode cX10_sumOf 110 = .ok (.getfield 44, 3) := by decide +kernel
theorem dX10_sumOf_113 : decode cX10_sumOf 113 = .ok (.iload 8, 2) := by decide +kernel
theorem dX10_sumOf_115 : decode cX10_sumOf 115 = .ok (.iaload, 1) := by decide +kernel
theorem dX10_sumOf_116 : decode cX10_sumOf 116 = .ok (.invokevirtual 154, 3) := by decide +kernel
theorem dX10_sumOf_119 : decode cX10_sumOf 119 = .ok (.iadd, 1) := by decide +kernel
theorem dX10_sumOf_120 : decode cX10_sumOf 120 = .ok (.istore 5, 2) := by decide +kernel
theorem dX10_sumOf_122 : decode cX10_sumOf 122 = .ok (.iload 5, 2) := by decide +kernel
theorem dX10_sumOf_124 : decode cX10_sumOf 124 = .ok (.iload 7, 2) := by decide +kernel
theorem dX10_sumOf_126 : decode cX10_sumOf 126 = .ok (.aload_n 0, 1) := by decide +kernel
theorem dX10_sumOf_127 : decode cX10_sumOf 127 = .ok (.getfield 44, 3) := by decide +kernel
theorem dX10_sumOf_130 : decode cX10_sumOf 130 = .ok (.iload 8, 2) := by decide +kernel
theorem dX10_sumOf_132 : decode cX10_sumOf 132 = .ok (.iaload, 1) := by decide +kernel
theorem dX10_sumOf_133 : decode cX10_sumOf 133 = .ok (.ishr, 1) := by decide +kernel
theorem dX10_sumOf_134 : decode cX10_sumOf 134 = .ok (.iconst 1, 1) := by decide +kernel
theorem dX10_sumOf_135 : decode cX10_sumOf 135 = .ok (.iand, 1) := by decide +kernel
theorem dX10_sumOf_136 : decode cX10_sumOf 136 = .ok (.iconst 1, 1) := by decide +kernel
theorem dX10_sumOf_137 : decode cX10_sumOf 137 = .ok (.if_icmp .ne 7, 3) := by decide +kernel
theorem dX10_sumOf_140 : decode cX10_sumOf 140 = .ok (.iconst 4, 1) := by decide +kernel
theorem dX10_sumOf_141 : decode cX10_sumOf 141 = .ok (.goto 4, 3) := by decide +kernel
theorem dX10_sumOf_144 : decode cX10_sumOf 144 = .ok (.iconst 0, 1) := by decide +kernel
theorem dX10_sumOf_145 : decode cX10_sumOf 145 = .ok (.iadd, 1) := by decide +kernel
theorem dX10_sumOf_146 : decode cX10_sumOf 146 = .ok (.istore 5, 2) := by decide +kernel
theorem dX10_sumOf_148 : decode cX10_sumOf 148 = .ok (.iinc 8 1, 3) := by decide +kernel
theorem dX10_sumOf_151 : decode cX10_sumOf 151 = .ok (.goto (-78), 3) := by decide +kernel
theorem dX10_sumOf_154 : decode cX10_sumOf 154 = .ok (.iload 5, 2) := by decide +kernel
theorem dX10_sumOf_156 : decode cX10_sumOf 156 = .ok (.ireturn, 1) := by decide +kernel
theorem dX10_setShares_0 : decode cX10_setShares 0 = .ok (.iconst 0, 1) := by decide +kernel
theorem dX10_setShares_1 : decode cX10_setShares 1 = .ok (.istore_n 3, 1) := by decide +kernel
theorem dX10_setShares_2 : decode cX10_setShares 2 = .ok (.iconst 0, 1) := by decide +kernel
theorem dX10_setShares_3 : decode cX10_setShares 3 = .ok (.istore 4, 2) := by decide +kernel
theorem dX10_setShares_5 : decode cX10_setShares 5 = .ok (.iconst 0, 1) := by decide +kernel
theorem dX10_setShares_6 : decode cX10_setShares 6 = .ok (.istore 5, 2) := by decide +kernel
theorem dX10_setShares_8 : decode cX10_setShares 8 = .ok (.iload 5, 2) := by decide +kernel
theorem dX10_setShares_10 : decode cX10_setShares 10 = .ok (.aload_n 0, 1) := by decide +kernel
theorem dX10_setShares_11 : decode cX10_setShares 11 = .ok (.invokevirtual 144, 3) := by decide +kernel
theorem dX10_setShares_14 : decode cX10_setShares 14 = .ok (.if_icmp .ge 60, 3) := by decide +kernel
theorem dX10_setShares_17 : decode cX10_setShares 17 = .ok (.aload_n 0, 1) := by decide +kernel
theorem dX10_setShares_18 : decode cX10_setShares 18 = .ok (.getfield 47, 3) := by decide +kernel
theorem dX10_setShares_21 : decode cX10_setShares 21 = .ok (.iload 5, 2) := by decide +kernel
theorem dX10_setShares_23 : decode cX10_setShares 23 = .ok (.aload_n 0, 1) := by decide +kernel
theorem dX10_setShares_24 : decode cX10_setShares 24 = .ok (.iload_n 1, 1) := by decide +kernel
theorem dX10_setShares_25 : decode cX10_setShares 25 = .ok (.iload 5, 2) := by decide +kernel
theorem dX10_setShares_27 : decode cX10_setShares 27 = .ok (.iload_n 2, 1) := by decide +kernel
theorem dX10_setShares_28 : decode cX10_setShares 28 = .ok (.invokevirtual 184, 3) := by decide +kernel
theorem dX10_setShares_31 : decode cX10_setShares 31 = .ok (.iastore, 1) := by decide +kernel
theorem dX10_setShares_32 : decode cX10_setShares 32 = .ok (.iload_n 3, 1) := by decide +kernel
theorem dX10_setShares_33 : decode cX10_setShares 33 = .ok (.aload_n 0, 1) := by decide +kernel
theorem dX10_setShares_34 : decode cX10_setShares 34 = .ok (.getfield 47, 3) := by decide +kernel
theorem dX10_setShares_37 : decode cX10_setShares 37 = .ok (.iload 5, 2) := by decide +kernel
theorem dX10_setShares_39 : decode cX10_setShares 39 = .ok (.iaload, 1) := by decide +kernel
theorem dX10_setShares_40 : decode cX10_setShares 40 = .ok (.iadd, 1) := by decide +kernel
theorem dX10_setShares_41 : decode cX10_setShares 41 = .ok (.istore_n 3, 1) := by decide +kernel
theorem dX10_setShares_42 : decode cX10_setShares 42 = .ok (.aload_n 0, 1) := by decide +kernel
theorem dX10_setShares_43 : decode cX10_setShares 43 = .ok (.getfield 47, 3) := by decide +kernel
theorem dX10_setShares_46 : decode cX10_setShares 46 = .ok (.iload 5, 2) := by decide +kernel
theorem dX10_setShares_48 : decode cX10_setShares 48 = .ok (.iaload, 1) := by decide +kernel
theorem dX10_setShares_49 : decode cX10_setShares 49 = .ok (.aload_n 0, 1) := by decide +kernel
theorem dX10_setShares_50 : decode cX10_setShares 50 = .ok (.getfield 47, 3) := by decide +kernel
theorem dX10_setShares_53 : decode cX10_setShares 53 = .ok (.iload 4, 2) := by decide +kernel
theorem dX10_setShares_55 : decode cX10_setShares 55 = .ok (.iaload, 1) := by decide +kernel
theorem dX10_setShares_56 : decode cX10_setShares 56 = .ok (.if_icmp .le 8, 3) := by decide +kernel
theorem dX10_setShares_59 : decode cX10_setShares 59 = .ok (.iload 5, 2) := by decide +kernel
theorem dX10_setShares_61 : decode cX10_setShares 61 = .ok (.goto 5, 3) := by decide +kernel
theorem dX10_setShares_64 : decode cX10_setShares 64 = .ok (.iload 4, 2) := by decide +kernel
theorem dX10_setShares_66 : decode cX10_setShares 66 = .ok (.istore 4, 2) := by decide +kernel
theorem dX10_setShares_68 : decode cX10_setShares 68 = .ok (.iinc 5 1, 3) := by decide +kernel
theorem dX10_setShares_71 : decode cX10_setShares 71 = .ok (.goto (-63), 3) := by decide +kernel
theorem dX10_setShares_74 : decode cX10_setShares 74 = .ok (.bipush 24, 2) := by decide +kernel
theorem dX10_setShares_76 : decode cX10_setShares 76 = .ok (.istore 5, 2) := by decide +kernel
theorem dX10_setShares_78 : decode cX10_setShares 78 = .ok (.iconst 0, 1) := by decide +kernel
theorem dX10_setShares_79 : decode cX10_setShares 79 = .ok (.istore 6, 2) := by decide +kernel
theorem dX10_setShares_81 : decode cX10_setShares 81 = .ok (.iload 6, 2) := by decide +kernel
theorem dX10_setShares_83 : decode cX10_setShares 83 = .ok (.aload_n 0, 1) := by decide +kernel
theorem dX10_setShares_84 : decode cX10_setShares 84 = .ok (.invokevirtual 144, 3) := by decide +kernel
theorem dX10_setShares_87 : decode cX10_setShares 87 = .ok (.if_icmp .ge 48, 3) := by decide +kernel
theorem dX10_setShares_90 : decode cX10_setShares 90 = .ok (.aload_n 0, 1) := by decide +kernel
theorem dX10_setShares_91 : decode cX10_setShares 91 = .ok (.getfield 50, 3) := by decide +kernel
theorem dX10_setShares_94 : decode cX10_setShares 94 = .ok (.iload 6, 2) := by decide +kernel
theorem dX10_setShares_96 : decode cX10_setShares 96 = .ok (.iload_n 3, 1) := by decide +kernel
theorem dX10_setShares_97 : decode cX10_setShares 97 = .ok (.ifCond .ne 7, 3) := by decide +kernel
theorem dX10_setShares_100 : decode cX10_setShares 100 = .ok (.iconst 0, 1) := by decide +kernel
theorem dX10_setShares_101 : decode cX10_setShares 101 = .ok (.goto 15, 3) := by decide +kernel
theorem dX10_setShares_104 : decode cX10_setShares 104 = .ok (.bipush 24, 2) := by decide +kernel
theorem dX10_setShares_106 : decode cX10_setShares 106 = .ok (.aload_n 0, 1) := by decide +kernel
theorem dX10_setShares_107 : decode cX10_setShares 107 = .ok (.getfield 47, 3) := by decide +kernel
theorem dX10_setShares_110 : decode cX10_setShares 110 = .ok (.iload 6, 2) := by decide +kernel
theorem dX10_setShares_112 : decode cX10_setShares 112 = .ok (.iaload, 1) := by decide +kernel
theorem dX10_setShares_113 : decode cX10_setShares 113 = .ok (.imul, 1) := by decide +kernel
theorem dX10_setShares_114 : decode cX10_setShares 114 = .ok (.iload_n 3, 1) := by decide +kernel
theorem dX10_setShares_115 : decode cX10_setShares 115 = .ok (.idiv, 1) := by decide +kernel
theorem dX10_setShares_116 : decode cX10_setShares 116 = .ok (.iastore, 1) := by decide +kernel
theorem dX10_setShares_117 : decode cX10_setShares 117 = .ok (.iload 5, 2) := by decide +kernel
theorem dX10_setShares_119 : decode cX10_setShares 119 = .ok (.aload_n 0, 1) := by decide +kernel
theorem dX10_setShares_120 : decode cX10_setShares 120 = .ok (.getfield 50, 3) := by decide +kernel
theorem dX10_setShares_123 : decode cX10_setShares 123 = .ok (.iload 6, 2) := by decide +kernel
theorem dX10_setShares_125 : decode cX10_setShares 125 = .ok (.iaload, 1) := by decide +kernel
theorem dX10_setShares_126 : decode cX10_setShares 126 = .ok (.isub, 1) := by decide +kernel
theorem dX10_setShares_127 : decode cX10_setShares 127 = .ok (.istore 5, 2) := by decide +kernel
theorem dX10_setShares_129 : decode cX10_setShares 129 = .ok (.iinc 6 1, 3) := by decide +kernel
theorem dX10_setShares_132 : decode cX10_setShares 132 = .ok (.goto (-51), 3) := by decide +kernel
theorem dX10_setShares_135 : decode cX10_setShares 135 = .ok (.aload_n 0, 1) := by decide +kernel
theorem dX10_setShares_136 : decode cX10_setShares 136 = .ok (.getfield 50, 3) := by decide +kernel
theorem dX10_setShares_139 : decode cX10_setShares 139 = .ok (.iload_n 3, 1) := by decide +kernel
theorem dX10_setShares_140 : decode cX10_setShares 140 = .ok (.ifCond .ne 12, 3) := by decide +kernel
theorem dX10_setShares_143 : decode cX10_setShares 143 = .ok (.aload_n 0, 1) := by decide +kernel
theorem dX10_setShares_144 : decode cX10_setShares 144 = .ok (.iload_n 1, 1) := by decide +kernel
theorem dX10_setShares_145 : decode cX10_setShares 145 = .ok (.iconst 3, 1) := by decide +kernel
theorem dX10_setShares_146 : decode cX10_setShares 146 = .ok (.invokevirtual 165, 3) := by decide +kernel
theorem dX10_setShares_149 : decode cX10_setShares 149 = .ok (.goto 5, 3) := by decide +kernel
theorem dX10_setShares_152 : decode cX10_setShares 152 = .ok (.iload 4, 2) := by decide +kernel
theorem dX10_setShares_154 : decode cX10_setShares 154 = .ok (.dup2, 1) := by decide +kernel
theorem dX10_setShares_155 : decode cX10_setShares 155 = .ok (.iaload, 1) := by decide +kernel
theorem dX10_setShares_156 : decode cX10_setShares 156 = .ok (.iload 5, 2) := by decide +kernel
theorem dX10_setShares_158 : decode cX10_setShares 158 = .ok (.iadd, 1) := by decide +kernel
theorem dX10_setShares_159 : decode cX10_setShares 159 = .ok (.iastore, 1) := by decide +kernel
theorem dX10_setShares_160 : decode cX10_setShares 160 = .ok (.return_, 1) := by decide +kernel
theorem dX10_greatest_0 : decode cX10_greatest 0 = .ok (.iconst 0, 1) := by decide +kernel
theorem dX10_greatest_1 : decode cX10_greatest 1 = .ok (.istore_n 1, 1) := by decide +kernel
theorem dX10_greatest_2 : decode cX10_greatest 2 = .ok (.iconst 1, 1) := by decide +kernel
theorem dX10_greatest_3 : decode cX10_greatest 3 = .ok (.istore_n 2, 1) := by decide +kernel
theorem dX10_greatest_4 : decode cX10_greatest 4 = .ok (.iload_n 2, 1) := by decide +kernel
theorem dX10_greatest_5 : decode cX10_greatest 5 = .ok (.aload_n 0, 1) := by decide +kernel
theorem dX10_greatest_6 : decode cX10_greatest 6 = .ok (.invokevirtual 144, 3) := by decide +kernel
theorem dX10_greatest_9 : decode cX10_greatest 9 = .ok (.if_icmp .ge 30, 3) := by decide +kernel
theorem dX10_greatest_12 : decode cX10_greatest 12 = .ok (.aload_n 0, 1) := by decide +kernel
theorem dX10_greatest_13 : decode cX10_greatest 13 = .ok (.getfield 50, 3) := by decide +kernel
theorem dX10_greatest_16 : decode cX10_greatest 16 = .ok (.iload_n 2, 1) := by decide +kernel
theorem dX10_greatest_17 : decode cX10_greatest 17 = .ok (.iaload, 1) := by decide +kernel
theorem dX10_greatest_18 : decode cX10_greatest 18 = .ok (.aload_n 0, 1) := by decide +kernel
theorem dX10_greatest_19 : decode cX10_greatest 19 = .ok (.getfield 50, 3) := by decide +kernel
theorem dX10_greatest_22 : decode cX10_greatest 22 = .ok (.iload_n 1, 1) := by decide +kernel
theorem dX10_greatest_23 : decode cX10_greatest 23 = .ok (.iaload, 1) := by decide +kernel
theorem dX10_greatest_24 : decode cX10_greatest 24 = .ok (.if_icmp .le 7, 3) := by decide +kernel
theorem dX10_greatest_27 : decode cX10_greatest 27 = .ok (.iload_n 2, 1) := by decide +kernel
theorem dX10_greatest_28 : decode cX10_greatest 28 = .ok (.goto 4, 3) := by decide +kernel
theorem dX10_greatest_31 : decode cX10_greatest 31 = .ok (.iload_n 1, 1) := by decide +kernel
theorem dX10_greatest_32 : decode cX10_greatest 32 = .ok (.istore_n 1, 1) := by decide +kernel
theorem dX10_greatest_33 : decode cX10_greatest 33 = .ok (.iinc 2 1, 3) := by decide +kernel
theorem dX10_greatest_36 : decode cX10_greatest 36 = .ok (.goto (-32), 3) := by decide +kernel
theorem dX10_greatest_39 : decode cX10_greatest 39 = .ok (.iload_n 1, 1) := by decide +kernel
theorem dX10_greatest_40 : decode cX10_greatest 40 = .ok (.ireturn, 1) := by decide +kernel
theorem dX10_seeDrawing_0 : decode cX10_seeDrawing 0 = .ok (.iconst 0, 1) := by decide +kernel
theorem dX10_seeDrawing_1 : decode cX10_seeDrawing 1 = .ok (.istore_n 1, 1) := by decide +kernel
theorem dX10_seeDrawing_2 : decode cX10_seeDrawing 2 = .ok (.iload_n 1, 1) := by decide +kernel
theorem dX10_seeDrawing_3 : decode cX10_seeDrawing 3 = .ok (.aload_n 0, 1) := by decide +kernel
theorem dX10_seeDrawing_4 : decode cX10_seeDrawing 4 = .ok (.getfield 171, 3) := by decide +kernel
theorem dX10_seeDrawing_7 : decode cX10_seeDrawing 7 = .ok (.if_icmp .ge 21, 3) := by decide +kernel
theorem dX10_seeDrawing_10 : decode cX10_seeDrawing 10 = .ok (.aload_n 0, 1) := by decide +kernel
theorem dX10_seeDrawing_11 : decode cX10_seeDrawing 11 = .ok (.getfield 44, 3) := by decide +kernel
theorem dX10_seeDrawing_14 : decode cX10_seeDrawing 14 = .ok (.iload_n 1, 1) := by decide +kernel
theorem dX10_seeDrawing_15 : decode cX10_seeDrawing 15 = .ok (.aload_n 0, 1) := by decide +kernel
theorem dX10_seeDrawing_16 : decode cX10_seeDrawing 16 = .ok (.getfield 41, 3) := by decide +kernel
theorem dX10_seeDrawing_19 : decode cX10_seeDrawing 19 = .ok (.iload_n 1, 1) := by decide +kernel
theorem dX10_seeDrawing_20 : decode cX10_seeDrawing 20 = .ok (.iaload, 1) := by decide +kernel
theorem dX10_seeDrawing_21 : decode cX10_seeDrawing 21 = .ok (.iastore, 1) := by decide +kernel
theorem dX10_seeDrawing_22 : decode cX10_seeDrawing 22 = .ok (.iinc 1 1, 3) := by decide +kernel
theorem dX10_seeDrawing_25 : decode cX10_seeDrawing 25 = .ok (.goto (-23), 3) := by decide +kernel
theorem dX10_seeDrawing_28 : decode cX10_seeDrawing 28 = .ok (.aload_n 0, 1) := by decide +kernel
theorem dX10_seeDrawing_29 : decode cX10_seeDrawing 29 = .ok (.aload_n 0, 1) := by decide +kernel
theorem dX10_seeDrawing_30 : decode cX10_seeDrawing 30 = .ok (.getfield 171, 3) := by decide +kernel
theorem dX10_seeDrawing_33 : decode cX10_seeDrawing 33 = .ok (.putfield 178, 3) := by decide +kernel
theorem dX10_seeDrawing_36 : decode cX10_seeDrawing 36 = .ok (.return_, 1) := by decide +kernel
theorem dX10_see_0 : decode cX10_see 0 = .ok (.aload_n 0, 1) := by decide +kernel
theorem dX10_see_1 : decode cX10_see 1 = .ok (.iload_n 1, 1) := by decide +kernel
theorem dX10_see_2 : decode cX10_see 2 = .ok (.iload_n 2, 1) := by decide +kernel
theorem dX10_see_3 : decode cX10_see 3 = .ok (.invokevirtual 174, 3) := by decide +kernel
theorem dX10_see_6 : decode cX10_see 6 = .ok (.aload_n 0, 1) := by decide +kernel
theorem dX10_see_7 : decode cX10_see 7 = .ok (.invokevirtual 187, 3) := by decide +kernel
theorem dX10_see_10 : decode cX10_see 10 = .ok (.return_, 1) := by decide +kernel
theorem dX10_seeSet_0 : decode cX10_seeSet 0 = .ok (.aload_n 0, 1) := by decide +kernel
theorem dX10_seeSet_1 : decode cX10_seeSet 1 = .ok (.iconst 0, 1) := by decide +kernel
theorem dX10_seeSet_2 : decode cX10_seeSet 2 = .ok (.putfield 178, 3) := by decide +kernel
theorem dX10_seeSet_5 : decode cX10_seeSet 5 = .ok (.iconst 0, 1) := by decide +kernel
theorem dX10_seeSet_6 : decode cX10_seeSet 6 = .ok (.istore_n 2, 1) := by decide +kernel
theorem dX10_seeSet_7 : decode cX10_seeSet 7 = .ok (.iload_n 2, 1) := by decide +kernel
theorem dX10_seeSet_8 : decode cX10_seeSet 8 = .ok (.bipush 10, 2) := by decide +kernel
theorem dX10_seeSet_10 : decode cX10_seeSet 10 = .ok (.if_icmp .ge 38, 3) := by decide +kernel
theorem dX10_seeSet_13 : decode cX10_seeSet 13 = .ok (.iload_n 1, 1) := by decide +kernel
theorem dX10_seeSet_14 : decode cX10_seeSet 14 = .ok (.iload_n 2, 1) := by decide +kernel
theorem dX10_seeSet_15 : decode cX10_seeSet 15 = .ok (.ishr, 1) := by decide +kernel
theorem dX10_seeSet_16 : decode cX10_seeSet 16 = .ok (.iconst 1, 1) := by decide +kernel
theorem dX10_seeSet_17 : decode cX10_seeSet 17 = .ok (.iand, 1) := by decide +kernel
theorem dX10_seeSet_18 : decode cX10_seeSet 18 = .ok (.iconst 1, 1) := by decide +kernel
theorem dX10_seeSet_19 : decode cX10_seeSet 19 = .ok (.if_icmp .ne 23, 3) := by decide +kernel
theorem dX10_seeSet_22 : decode cX10_seeSet 22 = .ok (.aload_n 0, 1) := by decide +kernel
theorem dX10_seeSet_23 : decode cX10_seeSet 23 = .ok (.getfield 44, 3) := by decide +kernel
theorem dX10_seeSet_26 : decode cX10_seeSet 26 = .ok (.aload_n 0, 1) := by decide +kernel
theorem dX10_seeSet_27 : decode cX10_seeSet 27 = .ok (.getfield 178, 3) := by decide +kernel
theorem dX10_seeSet_30 : decode cX10_seeSet 30 = .ok (.iload_n 2, 1) := by decide +kernel
theorem dX10_seeSet_31 : decode cX10_seeSet 31 = .ok (.iastore, 1) := by decide +kernel
theorem dX10_seeSet_32 : decode cX10_seeSet 32 = .ok (.aload_n 0, 1) := by decide +kernel
theorem dX10_seeSet_33 : decode cX10_seeSet 33 = .ok (.dup, 1) := by decide +kernel
theorem dX10_seeSet_34 : decode cX10_seeSet 34 = .ok (.getfield 178, 3) := by decide +kernel
theorem dX10_seeSet_37 : decode cX10_seeSet 37 = .ok (.iconst 1, 1) := by decide +kernel
theorem dX10_seeSet_38 : decode cX10_seeSet 38 = .ok (.iadd, 1) := by decide +kernel
theorem dX10_seeSet_39 : decode cX10_seeSet 39 = .ok (.putfield 178, 3) := by decide +kernel
theorem dX10_seeSet_42 : decode cX10_seeSet 42 = .ok (.iinc 2 1, 3) := by decide +kernel
theorem dX10_seeSet_45 : decode cX10_seeSet 45 = .ok (.goto (-38), 3) := by decide +kernel
theorem dX10_seeSet_48 : decode cX10_seeSet 48 = .ok (.return_, 1) := by decide +kernel
theorem dX10_seeRow_0 : decode cX10_seeRow 0 = .ok (.aload_n 0, 1) := by decide +kernel
theorem dX10_seeRow_1 : decode cX10_seeRow 1 = .ok (.iload_n 2, 1) := by decide +kernel
theorem dX10_seeRow_2 : decode cX10_seeRow 2 = .ok (.putfield 178, 3) := by decide +kernel
theorem dX10_seeRow_5 : decode cX10_seeRow 5 = .ok (.iconst 0, 1) := by decide +kernel
theorem dX10_seeRow_6 : decode cX10_seeRow 6 = .ok (.istore_n 3, 1) := by decide +kernel
theorem dX10_seeRow_7 : decode cX10_seeRow 7 = .ok (.iload_n 3, 1) := by decide +kernel
theorem dX10_seeRow_8 : decode cX10_seeRow 8 = .ok (.iload_n 2, 1) := by decide +kernel
theorem dX10_seeRow_9 : decode cX10_seeRow 9 = .ok (.if_icmp .ge 21, 3) := by decide +kernel
theorem dX10_seeRow_12 : decode cX10_seeRow 12 = .ok (.aload_n 0, 1) := by decide +kernel
theorem dX10_seeRow_13 : decode cX10_seeRow 13 = .ok (.getfield 44, 3) := by decide +kernel
theorem dX10_seeRow_16 : decode cX10_seeRow 16 = .ok (.iload_n 3, 1) := by decide +kernel
theorem dX10_seeRow_17 : decode cX10_seeRow 17 = .ok (.aload_n 0, 1) := by decide +kernel
theorem dX10_seeRow_18 : decode cX10_seeRow 18 = .ok (.iload_n 1, 1) := by decide +kernel
theorem dX10_seeRow_19 : decode cX10_seeRow 19 = .ok (.iload_n 3, 1) := by decide +kernel
theorem dX10_seeRow_20 : decode cX10_seeRow 20 = .ok (.invokevirtual 113, 3) := by decide +kernel
theorem dX10_seeRow_23 : decode cX10_seeRow 23 = .ok (.iastore, 1) := by decide +kernel
theorem dX10_seeRow_24 : decode cX10_seeRow 24 = .ok (.iinc 3 1, 3) := by decide +kernel
theorem dX10_seeRow_27 : decode cX10_seeRow 27 = .ok (.goto (-20), 3) := by decide +kernel
theorem dX10_seeRow_30 : decode cX10_seeRow 30 = .ok (.return_, 1) := by decide +kernel
theorem dX10_askedDrawn_0 : decode cX10_askedDrawn 0 = .ok (.aload_n 0, 1) := by decide +kernel
theorem dX10_askedDrawn_1 : decode cX10_askedDrawn 1 = .ok (.getfield 17, 3) := by decide +kernel
theorem dX10_askedDrawn_4 : decode cX10_askedDrawn 4 = .ok (.iload_n 1, 1) := by decide +kernel
theorem dX10_askedDrawn_5 : decode cX10_askedDrawn 5 = .ok (.iaload, 1) := by decide +kernel
theorem dX10_askedDrawn_6 : decode cX10_askedDrawn 6 = .ok (.ifCond .ge 9, 3) := by decide +kernel
theorem dX10_askedDrawn_9 : decode cX10_askedDrawn 9 = .ok (.aload_n 0, 1) := by decide +kernel
theorem dX10_askedDrawn_10 : decode cX10_askedDrawn 10 = .ok (.iconst 1, 1) := by decide +kernel
theorem dX10_askedDrawn_11 : decode cX10_askedDrawn 11 = .ok (.invokevirtual 99, 3) := by decide +kernel
theorem dX10_askedDrawn_14 : decode cX10_askedDrawn 14 = .ok (.ireturn, 1) := by decide +kernel
theorem dX10_askedDrawn_15 : decode cX10_askedDrawn 15 = .ok (.aload_n 0, 1) := by decide +kernel
theorem dX10_askedDrawn_16 : decode cX10_askedDrawn 16 = .ok (.getfield 17, 3) := by decide +kernel
theorem dX10_askedDrawn_19 : decode cX10_askedDrawn 19 = .ok (.iload_n 1, 1) := by decide +kernel
theorem dX10_askedDrawn_20 : decode cX10_askedDrawn 20 = .ok (.iaload, 1) := by decide +kernel
theorem dX10_askedDrawn_21 : decode cX10_askedDrawn 21 = .ok (.iconst 1, 1) := by decide +kernel
theorem dX10_askedDrawn_22 : decode cX10_askedDrawn 22 = .ok (.bipush 6, 2) := by decide +kernel
theorem dX10_askedDrawn_24 : decode cX10_askedDrawn 24 = .ok (.invokestatic 91, 3) := by decide +kernel
theorem dX10_askedDrawn_27 : decode cX10_askedDrawn 27 = .ok (.ifCond .ne 9, 3) := by decide +kernel
theorem dX10_askedDrawn_30 : decode cX10_askedDrawn 30 = .ok (.aload_n 0, 1) := by decide +kernel
theorem dX10_askedDrawn_31 : decode cX10_askedDrawn 31 = .ok (.iconst 5, 1) := by decide +kernel
theorem dX10_askedDrawn_32 : decode cX10_askedDrawn 32 = .ok (.invokevirtual 99, 3) := by decide +kernel
theorem dX10_askedDrawn_35 : decode cX10_askedDrawn 35 = .ok (.ireturn, 1) := by decide +kernel
theorem dX10_askedDrawn_36 : decode cX10_askedDrawn 36 = .ok (.iconst 0, 1) := by decide +kernel
theorem dX10_askedDrawn_37 : decode cX10_askedDrawn 37 = .ok (.istore_n 2, 1) := by decide +kernel
theorem dX10_askedDrawn_38 : decode cX10_askedDrawn 38 = .ok (.iload_n 2, 1) := by decide +kernel
theorem dX10_askedDrawn_39 : decode cX10_askedDrawn 39 = .ok (.aload_n 0, 1) := by decide +kernel
theorem dX10_askedDrawn_40 : decode cX10_askedDrawn 40 = .ok (.getfield 17, 3) := by decide +kernel
theorem dX10_askedDrawn_43 : decode cX10_askedDrawn 43 = .ok (.iload_n 1, 1) := by decide +kernel
theorem dX10_askedDrawn_44 : decode cX10_askedDrawn 44 = .ok (.iaload, 1) := by decide +kernel
theorem dX10_askedDrawn_45 : decode cX10_askedDrawn 45 = .ok (.if_icmp .ge 73, 3) := by decide +kernel
theorem dX10_askedDrawn_48 : decode cX10_askedDrawn 48 = .ok (.aload_n 0, 1) := by decide +kernel
theorem dX10_askedDrawn_49 : decode cX10_askedDrawn 49 = .ok (.iload_n 1, 1) := by decide +kernel
theorem dX10_askedDrawn_50 : decode cX10_askedDrawn 50 = .ok (.iload_n 2, 1) := by decide +kernel
theorem dX10_askedDrawn_51 : decode cX10_askedDrawn 51 = .ok (.invokevirtual 113, 3) := by decide +kernel
theorem dX10_askedDrawn_54 : decode cX10_askedDrawn 54 = .ok (.iconst 0, 1) := by decide +kernel
theorem dX10_askedDrawn_55 : decode cX10_askedDrawn 55 = .ok (.bipush 9, 2) := by decide +kernel
theorem dX10_askedDrawn_57 : decode cX10_askedDrawn 57 = .ok (.invokestatic 91, 3) := by decide +kernel
theorem dX10_askedDrawn_60 : decode cX10_askedDrawn 60 = .ok (.istore_n 3, 1) := by decide +kernel
theorem dX10_askedDrawn_61 : decode cX10_askedDrawn 61 = .ok (.iconst 0, 1) := by decide +kernel
theorem dX10_askedDrawn_62 : decode cX10_askedDrawn 62 = .ok (.istore 4, 2) := by decide +kernel
theorem dX10_askedDrawn_64 : decode cX10_askedDrawn 64 = .ok (.iload 4, 2) := by decide +kernel
theorem dX10_askedDrawn_66 : decode cX10_askedDrawn 66 = .ok (.iload_n 2, 1) := by decide +kernel
theorem dX10_askedDrawn_67 : decode cX10_askedDrawn 67 = .ok (.if_icmp .ge 35, 3) := by decide +kernel
theorem dX10_askedDrawn_70 : decode cX10_askedDrawn 70 = .ok (.iload_n 3, 1) := by decide +kernel
theorem dX10_askedDrawn_71 : decode cX10_askedDrawn 71 = .ok (.ifCond .eq 23, 3) := by decide +kernel
theorem dX10_askedDrawn_74 : decode cX10_askedDrawn 74 = .ok (.aload_n 0, 1) := by decide +kernel
theorem dX10_askedDrawn_75 : decode cX10_askedDrawn 75 = .ok (.iload_n 1, 1) := by decide +kernel
theorem dX10_askedDrawn_76 : decode cX10_askedDrawn 76 = .ok (.iload_n 2, 1) := by decide +kernel
theorem dX10_askedDrawn_77 : decode cX10_askedDrawn 77 = .ok (.invokevirtual 113, 3) := by decide +kernel
theorem dX10_askedDrawn_80 : decode cX10_askedDrawn 80 = .ok (.aload_n 0, 1) := by decide +kernel
theorem dX10_askedDrawn_81 : decode cX10_askedDrawn 81 = .ok (.iload_n 1, 1) := by decide +kernel
theorem dX10_askedDrawn_82 : decode cX10_askedDrawn 82 = .ok (.iload 4, 2) := by decide +kernel
theorem dX10_askedDrawn_84 : decode cX10_askedDrawn 84 = .ok (.invokevirtual 113, 3) := by decide +kernel
theorem dX10_askedDrawn_87 : decode cX10_askedDrawn 87 = .ok (.if_icmp .eq 7, 3) := by decide +kernel
theorem dX10_askedDrawn_90 : decode cX10_askedDrawn 90 = .ok (.iconst 1, 1) := by decide +kernel
theorem dX10_askedDrawn_91 : decode cX10_askedDrawn 91 = .ok (.goto 4, 3) := by decide +kernel
theorem dX10_askedDrawn_94 : decode cX10_askedDrawn 94 = .ok (.iconst 0, 1) := by decide +kernel
theorem dX10_askedDrawn_95 : decode cX10_askedDrawn 95 = .ok (.istore_n 3, 1) := by decide +kernel
theorem dX10_askedDrawn_96 : decode cX10_askedDrawn 96 = .ok (.iinc 4 1, 3) := by decide +kernel
theorem dX10_askedDrawn_99 : decode cX10_askedDrawn 99 = .ok (.goto (-35), 3) := by decide +kernel
theorem dX10_askedDrawn_102 : decode cX10_askedDrawn 102 = .ok (.iload_n 3, 1) := by decide +kernel
theorem dX10_askedDrawn_103 : decode cX10_askedDrawn 103 = .ok (.ifCond .ne 9, 3) := by decide +kernel
theorem dX10_askedDrawn_106 : decode cX10_askedDrawn 106 = .ok (.aload_n 0, 1) := by decide +kernel
theorem dX10_askedDrawn_107 : decode cX10_askedDrawn 107 = .ok (.iconst 3, 1) := by decide +kernel
theorem dX10_askedDrawn_108 : decode cX10_askedDrawn 108 = .ok (.invokevirtual 99, 3) := by decide +kernel
theorem dX10_askedDrawn_111 : decode cX10_askedDrawn 111 = .ok (.ireturn, 1) := by decide +kernel
theorem dX10_askedDrawn_112 : decode cX10_askedDrawn 112 = .ok (.iinc 2 1, 3) := by decide +kernel
theorem dX10_askedDrawn_115 : decode cX10_askedDrawn 115 = .ok (.goto (-77), 3) := by decide +kernel
theorem dX10_askedDrawn_118 : decode cX10_askedDrawn 118 = .ok (.iconst 0, 1) := by decide +kernel
theorem dX10_askedDrawn_119 : decode cX10_askedDrawn 119 = .ok (.ireturn, 1) := by decide +kernel
theorem dX10_rowSet_0 : decode cX10_rowSet 0 = .ok (.iconst 0, 1) := by decide +kernel
theorem dX10_rowSet_1 : decode cX10_rowSet 1 = .ok (.istore_n 2, 1) := by decide +kernel
theorem dX10_rowSet_2 : decode cX10_rowSet 2 = .ok (.iconst 0, 1) := by decide +kernel
theorem dX10_rowSet_3 : decode cX10_rowSet 3 = .ok (.istore_n 3, 1) := by decide +kernel
theorem dX10_rowSet_4 : decode cX10_rowSet 4 = .ok (.iload_n 3, 1) := by decide +kernel
theorem dX10_rowSet_5 : decode cX10_rowSet 5 = .ok (.aload_n 0, 1) := by decide +kernel
theorem dX10_rowSet_6 : decode cX10_rowSet 6 = .ok (.getfield 17, 3) := by decide +kernel
theorem dX10_rowSet_9 : decode cX10_rowSet 9 = .ok (.iload_n 1, 1) := by decide +kernel
theorem dX10_rowSet_10 : decode cX10_rowSet 10 = .ok (.iaload, 1) := by decide +kernel
theorem dX10_rowSet_11 : decode cX10_rowSet 11 = .ok (.if_icmp .ge 20, 3) := by decide +kernel
theorem dX10_rowSet_14 : decode cX10_rowSet 14 = .ok (.iload_n 2, 1) := by decide +kernel
theorem dX10_rowSet_15 : decode cX10_rowSet 15 = .ok (.iconst 1, 1) := by decide +kernel
theorem dX10_rowSet_16 : decode cX10_rowSet 16 = .ok (.aload_n 0, 1) := by decide +kernel
theorem dX10_rowSet_17 : decode cX10_rowSet 17 = .ok (.iload_n 1, 1) := by decide +kernel
theorem dX10_rowSet_18 : decode cX10_rowSet 18 = .ok (.iload_n 3, 1) := by decide +kernel
theorem dX10_rowSet_19 : decode cX10_rowSet 19 = .ok (.invokevirtual 113, 3) := by decide +kernel
theorem dX10_rowSet_22 : decode cX10_rowSet 22 = .ok (.ishl, 1) := by decide +kernel
theorem dX10_rowSet_23 : decode cX10_rowSet 23 = .ok (.ior, 1) := by decide +kernel
theorem dX10_rowSet_24 : decode cX10_rowSet 24 = .ok (.istore_n 2, 1) := by decide +kernel
theorem dX10_rowSet_25 : decode cX10_rowSet 25 = .ok (.iinc 3 1, 3) := by decide +kernel
theorem dX10_rowSet_28 : decode cX10_rowSet 28 = .ok (.goto (-24), 3) := by decide +kernel
theorem dX10_rowSet_31 : decode cX10_rowSet 31 = .ok (.iload_n 2, 1) := by decide +kernel
theorem dX10_rowSet_32 : decode cX10_rowSet 32 = .ok (.ireturn, 1) := by decide +kernel
theorem dX10_mark_0 : decode cX10_mark 0 = .ok (.aload_n 0, 1) := by decide +kernel
theorem dX10_mark_1 : decode cX10_mark 1 = .ok (.iload_n 1, 1) := by decide +kernel
theorem dX10_mark_2 : decode cX10_mark 2 = .ok (.invokevirtual 162, 3) := by decide +kernel
theorem dX10_mark_5 : decode cX10_mark 5 = .ok (.ifCond .eq 12, 3) := by decide +kernel
theorem dX10_mark_8 : decode cX10_mark 8 = .ok (.iload_n 2, 1) := by decide +kernel
theorem dX10_mark_9 : decode cX10_mark 9 = .ok (.iconst 1, 1) := by decide +kernel
theorem dX10_mark_10 : decode cX10_mark 10 = .ok (.iconst 5, 1) := by decide +kernel
theorem dX10_mark_11 : decode cX10_mark 11 = .ok (.invokestatic 91, 3) := by decide +kernel
theorem dX10_mark_14 : decode cX10_mark 14 = .ok (.ifCond .ne 5, 3) := by decide +kernel
theorem dX10_mark_17 : decode cX10_mark 17 = .ok (.iconst (-1), 1) := by decide +kernel
theorem dX10_mark_18 : decode cX10_mark 18 = .ok (.ireturn, 1) := by decide +kernel
theorem dX10_mark_19 : decode cX10_mark 19 = .ok (.aload_n 0, 1) := by decide +kernel
theorem dX10_mark_20 : decode cX10_mark 20 = .ok (.iload_n 1, 1) := by decide +kernel
theorem dX10_mark_21 : decode cX10_mark 21 = .ok (.iconst 0, 1) := by decide +kernel
theorem dX10_mark_22 : decode cX10_mark 22 = .ok (.invokevirtual 165, 3) := by decide +kernel
theorem dX10_mark_25 : decode cX10_mark 25 = .ok (.iload_n 2, 1) := by decide +kernel
theorem dX10_mark_26 : decode cX10_mark 26 = .ok (.if_icmp .eq 22, 3) := by decide +kernel
theorem dX10_mark_29 : decode cX10_mark 29 = .ok (.iload_n 2, 1) := by decide +kernel
theorem dX10_mark_30 : decode cX10_mark 30 = .ok (.iconst 1, 1) := by decide +kernel
theorem dX10_mark_31 : decode cX10_mark 31 = .ok (.if_icmp .ne 11, 3) := by decide +kernel
theorem dX10_mark_34 : decode cX10_mark 34 = .ok (.aload_n 0, 1) := by decide +kernel
theorem dX10_mark_35 : decode cX10_mark 35 = .ok (.iload_n 1, 1) := by decide +kernel
theorem dX10_mark_36 : decode cX10_mark 36 = .ok (.invokevirtual 168, 3) := by decide +kernel
theorem dX10_mark_39 : decode cX10_mark 39 = .ok (.ifCond .ne 9, 3) := by decide +kernel
theorem dX10_mark_42 : decode cX10_mark 42 = .ok (.aload_n 0, 1) := by decide +kernel
theorem dX10_mark_43 : decode cX10_mark 43 = .ok (.iconst 3, 1) := by decide +kernel
theorem dX10_mark_44 : decode cX10_mark 44 = .ok (.invokevirtual 99, 3) := by decide +kernel
theorem dX10_mark_47 : decode cX10_mark 47 = .ok (.ireturn, 1) := by decide +kernel
theorem dX10_mark_48 : decode cX10_mark 48 = .ok (.iload_n 2, 1) := by decide +kernel
theorem dX10_mark_49 : decode cX10_mark 49 = .ok (.iconst 1, 1) := by decide +kernel
theorem dX10_mark_50 : decode cX10_mark 50 = .ok (.if_icmp .ne 14, 3) := by decide +kernel
theorem dX10_mark_53 : decode cX10_mark 53 = .ok (.aload_n 0, 1) := by decide +kernel
theorem dX10_mark_54 : decode cX10_mark 54 = .ok (.iload_n 1, 1) := by decide +kernel
theorem dX10_mark_55 : decode cX10_mark 55 = .ok (.iconst 0, 1) := by decide +kernel
theorem dX10_mark_56 : decode cX10_mark 56 = .ok (.invokevirtual 174, 3) := by decide +kernel
theorem dX10_mark_59 : decode cX10_mark 59 = .ok (.aload_n 0, 1) := by decide +kernel
theorem dX10_mark_60 : decode cX10_mark 60 = .ok (.getfield 171, 3) := by decide +kernel
theorem dX10_mark_63 : decode cX10_mark 63 = .ok (.ireturn, 1) := by decide +kernel
theorem dX10_mark_64 : decode cX10_mark 64 = .ok (.iload_n 2, 1) := by decide +kernel
theorem dX10_mark_65 : decode cX10_mark 65 = .ok (.iconst 3, 1) := by decide +kernel
theorem dX10_mark_66 : decode cX10_mark 66 = .ok (.if_icmp .ne 10, 3) := by decide +kernel
theorem dX10_mark_69 : decode cX10_mark 69 = .ok (.aload_n 0, 1) := by decide +kernel
theorem dX10_mark_70 : decode cX10_mark 70 = .ok (.iload_n 1, 1) := by decide +kernel
theorem dX10_mark_71 : decode cX10_mark 71 = .ok (.iconst 2, 1) := by decide +kernel
theorem dX10_mark_72 : decode cX10_mark 72 = .ok (.invokevirtual 165, 3) := by decide +kernel
theorem dX10_mark_75 : decode cX10_mark 75 = .ok (.ireturn, 1) := by decide +kernel
theorem dX10_mark_76 : decode cX10_mark 76 = .ok (.iload_n 2, 1) := by decide +kernel
theorem dX10_mark_77 : decode cX10_mark 77 = .ok (.iconst 5, 1) := by decide +kernel
theorem dX10_mark_78 : decode cX10_mark 78 = .ok (.if_icmp .ne 73, 3) := by decide +kernel
theorem dX10_mark_81 : decode cX10_mark 81 = .ok (.iconst 0, 1) := by decide +kernel
theorem dX10_mark_82 : decode cX10_mark 82 = .ok (.istore_n 3, 1) := by decide +kernel
theorem dX10_mark_83 : decode cX10_mark 83 = .ok (.iconst 0, 1) := by decide +kernel
theorem dX10_mark_84 : decode cX10_mark 84 = .ok (.istore 4, 2) := by decide +kernel
theorem dX10_mark_86 : decode cX10_mark 86 = .ok (.iload 4, 2) := by decide +kernel
theorem dX10_mark_88 : decode cX10_mark 88 = .ok (.aload_n 0, 1) := by decide +kernel
theorem dX10_mark_89 : decode cX10_mark 89 = .ok (.getfield 138, 3) := by decide +kernel
theorem dX10_mark_92 : decode cX10_mark 92 = .ok (.if_icmp .ge 57, 3) := by decide +kernel
theorem dX10_mark_95 : decode cX10_mark 95 = .ok (.aload_n 0, 1) := by decide +kernel
theorem dX10_mark_96 : decode cX10_mark 96 = .ok (.iload 4, 2) := by decide +kernel
theorem dX10_mark_98 : decode cX10_mark 98 = .ok (.iconst 0, 1) := by decide +kernel
theorem dX10_mark_99 : decode cX10_mark 99 = .ok (.invokevirtual 190, 3) := by decide +kernel
theorem dX10_mark_102 : decode cX10_mark 102 = .ok (.aload_n 0, 1) := by decide +kernel
theorem dX10_mark_103 : decode cX10_mark 103 = .ok (.iload_n 1, 1) := by decide +kernel
theorem dX10_mark_104 : decode cX10_mark 104 = .ok (.bipush (-9), 2) := by decide +kernel
theorem dX10_mark_106 : decode cX10_mark 106 = .ok (.invokevirtual 193, 3) := by decide +kernel
theorem dX10_mark_109 : decode cX10_mark 109 = .ok (.aload_n 0, 1) := by decide +kernel
theorem dX10_mark_110 : decode cX10_mark 110 = .ok (.getfield 50, 3) := by decide +kernel
theorem dX10_mark_113 : decode cX10_mark 113 = .ok (.iconst 0, 1) := by decide +kernel
theorem dX10_mark_114 : decode cX10_mark 114 = .ok (.iaload, 1) := by decide +kernel
theorem dX10_mark_115 : decode cX10_mark 115 = .ok (.istore 5, 2) := by decide +kernel
theorem dX10_mark_117 : decode cX10_mark 117 = .ok (.aload_n 0, 1) := by decide +kernel
theorem dX10_mark_118 : decode cX10_mark 118 = .ok (.iload_n 1, 1) := by decide +kernel
theorem dX10_mark_119 : decode cX10_mark 119 = .ok (.iload 4, 2) := by decide +kernel
theorem dX10_mark_121 : decode cX10_mark 121 = .ok (.invokevirtual 193, 3) := by decide +kernel
theorem dX10_mark_124 : decode cX10_mark 124 = .ok (.iload_n 3, 1) := by decide +kernel
theorem dX10_mark_125 : decode cX10_mark 125 = .ok (.aload_n 0, 1) := by decide +kernel
theorem dX10_mark_126 : decode cX10_mark 126 = .ok (.getfield 50, 3) := by decide +kernel
theorem dX10_mark_129 : decode cX10_mark 129 = .ok (.iconst 0, 1) := by decide +kernel
theorem dX10_mark_130 : decode cX10_mark 130 = .ok (.iaload, 1) := by decide +kernel
theorem dX10_mark_131 : decode cX10_mark 131 = .ok (.iload 5, 2) := by decide +kernel
theorem dX10_mark_133 : decode cX10_mark 133 = .ok (.if_icmp .le 7, 3) := by decide +kernel
theorem dX10_mark_136 : decode cX10_mark 136 = .ok (.iconst 1, 1) := by decide +kernel
theorem dX10_mark_137 : decode cX10_mark 137 = .ok (.goto 4, 3) := by decide +kernel
theorem dX10_mark_140 : decode cX10_mark 140 = .ok (.iconst 0, 1) := by decide +kernel
theorem dX10_mark_141 : decode cX10_mark 141 = .ok (.iadd, 1) := by decide +kernel
theorem dX10_mark_142 : decode cX10_mark 142 = .ok (.istore_n 3, 1) := by decide +kernel
theorem dX10_mark_143 : decode cX10_mark 143 = .ok (.iinc 4 1, 3) := by decide +kernel
theorem dX10_mark_146 : decode cX10_mark 146 = .ok (.goto (-60), 3) := by decide +kernel
theorem dX10_mark_149 : decode cX10_mark 149 = .ok (.iload_n 3, 1) := by decide +kernel
theorem dX10_mark_150 : decode cX10_mark 150 = .ok (.ireturn, 1) := by decide +kernel
theorem dX10_mark_151 : decode cX10_mark 151 = .ok (.aload_n 0, 1) := by decide +kernel
theorem dX10_mark_152 : decode cX10_mark 152 = .ok (.iconst 1, 1) := by decide +kernel
theorem dX10_mark_153 : decode cX10_mark 153 = .ok (.invokevirtual 196, 3) := by decide +kernel
theorem dX10_mark_156 : decode cX10_mark 156 = .ok (.aload_n 0, 1) := by decide +kernel
theorem dX10_mark_157 : decode cX10_mark 157 = .ok (.iload_n 1, 1) := by decide +kernel
theorem dX10_mark_158 : decode cX10_mark 158 = .ok (.bipush (-9), 2) := by decide +kernel
theorem dX10_mark_160 : decode cX10_mark 160 = .ok (.invokevirtual 193, 3) := by decide +kernel
theorem dX10_mark_163 : decode cX10_mark 163 = .ok (.iload_n 2, 1) := by decide +kernel
theorem dX10_mark_164 : decode cX10_mark 164 = .ok (.iconst 2, 1) := by decide +kernel
theorem dX10_mark_165 : decode cX10_mark 165 = .ok (.if_icmp .ne 17, 3) := by decide +kernel
theorem dX10_mark_168 : decode cX10_mark 168 = .ok (.aload_n 0, 1) := by decide +kernel
theorem dX10_mark_169 : decode cX10_mark 169 = .ok (.getfield 50, 3) := by decide +kernel
theorem dX10_mark_172 : decode cX10_mark 172 = .ok (.aload_n 0, 1) := by decide +kernel
theorem dX10_mark_173 : decode cX10_mark 173 = .ok (.iload_n 1, 1) := by decide +kernel
theorem dX10_mark_174 : decode cX10_mark 174 = .ok (.iconst 3, 1) := by decide +kernel
theorem dX10_mark_175 : decode cX10_mark 175 = .ok (.invokevirtual 165, 3) := by decide +kernel
theorem dX10_mark_178 : decode cX10_mark 178 = .ok (.iaload, 1) := by decide +kernel
theorem dX10_mark_179 : decode cX10_mark 179 = .ok (.goto 7, 3) := by decide +kernel
theorem dX10_mark_182 : decode cX10_mark 182 = .ok (.aload_n 0, 1) := by decide +kernel
theorem dX10_mark_183 : decode cX10_mark 183 = .ok (.invokevirtual 200, 3) := by decide +kernel
theorem dX10_mark_186 : decode cX10_mark 186 = .ok (.ireturn, 1) := by decide +kernel
theorem dX10_draws_0 : decode cX10_draws 0 = .ok (.aload_n 0, 1) := by decide +kernel
theorem dX10_draws_1 : decode cX10_draws 1 = .ok (.iload_n 1, 1) := by decide +kernel
theorem dX10_draws_2 : decode cX10_draws 2 = .ok (.invokevirtual 162, 3) := by decide +kernel
theorem dX10_draws_5 : decode cX10_draws 5 = .ok (.ifCond .eq 18, 3) := by decide +kernel
theorem dX10_draws_8 : decode cX10_draws 8 = .ok (.aload_n 0, 1) := by decide +kernel
theorem dX10_draws_9 : decode cX10_draws 9 = .ok (.iload_n 2, 1) := by decide +kernel
theorem dX10_draws_10 : decode cX10_draws 10 = .ok (.invokevirtual 151, 3) := by decide +kernel
theorem dX10_draws_13 : decode cX10_draws 13 = .ok (.ifCond .eq 10, 3) := by decide +kernel
theorem dX10_draws_16 : decode cX10_draws 16 = .ok (.iload_n 3, 1) := by decide +kernel
theorem dX10_draws_17 : decode cX10_draws 17 = .ok (.invokestatic 95, 3) := by decide +kernel
theorem dX10_draws_20 : decode cX10_draws 20 = .ok (.ifCond .ne 5, 3) := by decide +kernel
theorem dX10_draws_23 : decode cX10_draws 23 = .ok (.iconst (-1), 1) := by decide +kernel
theorem dX10_draws_24 : decode cX10_draws 24 = .ok (.ireturn, 1) := by decide +kernel
theorem dX10_draws_25 : decode cX10_draws 25 = .ok (.aload_n 0, 1) := by decide +kernel
theorem dX10_draws_26 : decode cX10_draws 26 = .ok (.iload_n 1, 1) := by decide +kernel
theorem dX10_draws_27 : decode cX10_draws 27 = .ok (.iload_n 2, 1) := by decide +kernel
theorem dX10_draws_28 : decode cX10_draws 28 = .ok (.invokevirtual 174, 3) := by decide +kernel
theorem dX10_draws_31 : decode cX10_draws 31 = .ok (.aload_n 0, 1) := by decide +kernel
theorem dX10_draws_32 : decode cX10_draws 32 = .ok (.iload_n 3, 1) := by decide +kernel
theorem dX10_draws_33 : decode cX10_draws 33 = .ok (.aload_n 0, 1) := by decide +kernel
theorem dX10_draws_34 : decode cX10_draws 34 = .ok (.getfield 171, 3) := by decide +kernel
theorem dX10_draws_37 : decode cX10_draws 37 = .ok (.invokevirtual 203, 3) := by decide +kernel
theorem dX10_draws_40 : decode cX10_draws 40 = .ok (.ireturn, 1) := by decide +kernel
theorem dX10_rowOf_0 : decode cX10_rowOf 0 = .ok (.aload_n 0, 1) := by decide +kernel
theorem dX10_rowOf_1 : decode cX10_rowOf 1 = .ok (.iload_n 1, 1) := by decide +kernel
theorem dX10_rowOf_2 : decode cX10_rowOf 2 = .ok (.iload_n 2, 1) := by decide +kernel
theorem dX10_rowOf_3 : decode cX10_rowOf 3 = .ok (.invokevirtual 206, 3) := by decide +kernel
theorem dX10_rowOf_6 : decode cX10_rowOf 6 = .ok (.pop, 1) := by decide +kernel
theorem dX10_rowOf_7 : decode cX10_rowOf 7 = .ok (.iconst 0, 1) := by decide +kernel
theorem dX10_rowOf_8 : decode cX10_rowOf 8 = .ok (.istore_n 3, 1) := by decide +kernel
theorem dX10_rowOf_9 : decode cX10_rowOf 9 = .ok (.iload_n 3, 1) := by decide +kernel
theorem dX10_rowOf_10 : decode cX10_rowOf 10 = .ok (.iload_n 2, 1) := by decide +kernel
theorem dX10_rowOf_11 : decode cX10_rowOf 11 = .ok (.if_icmp .ge 21, 3) := by decide +kernel
theorem dX10_rowOf_14 : decode cX10_rowOf 14 = .ok (.aload_n 0, 1) := by decide +kernel
theorem dX10_rowOf_15 : decode cX10_rowOf 15 = .ok (.iload_n 1, 1) := by decide +kernel
theorem dX10_rowOf_16 : decode cX10_rowOf 16 = .ok (.iload_n 3, 1) := by decide +kernel
theorem dX10_rowOf_17 : decode cX10_rowOf 17 = .ok (.aload_n 0, 1) := by decide +kernel
theorem dX10_rowOf_18 : decode cX10_rowOf 18 = .ok (.getfield 41, 3) := by decide +kernel
theorem dX10_rowOf_21 : decode cX10_rowOf 21 = .ok (.iload_n 3, 1) := by decide +kernel
theorem dX10_rowOf_22 : decode cX10_rowOf 22 = .ok (.iaload, 1) := by decide +kernel
theorem dX10_rowOf_23 : decode cX10_rowOf 23 = .ok (.invokevirtual 106, 3) := by decide +kernel
theorem dX10_rowOf_26 : decode cX10_rowOf 26 = .ok (.iinc 3 1, 3) := by decide +kernel
theorem dX10_rowOf_29 : decode cX10_rowOf 29 = .ok (.goto (-20), 3) := by decide +kernel
theorem dX10_rowOf_32 : decode cX10_rowOf 32 = .ok (.iload_n 2, 1) := by decide +kernel
theorem dX10_rowOf_33 : decode cX10_rowOf 33 = .ok (.ireturn, 1) := by decide +kernel
theorem dX10_isBy_0 : decode cX10_isBy 0 = .ok (.iload_n 1, 1) := by decide +kernel
theorem dX10_isBy_1 : decode cX10_isBy 1 = .ok (.bipush (-9), 2) := by decide +kernel
theorem dX10_isBy_3 : decode cX10_isBy 3 = .ok (.if_icmp .eq 11, 3) := by decide +kernel
theorem dX10_isBy_6 : decode cX10_isBy 6 = .ok (.aload_n 0, 1) := by decide +kernel
theorem dX10_isBy_7 : decode cX10_isBy 7 = .ok (.iload_n 1, 1) := by decide +kernel
theorem dX10_isBy_8 : decode cX10_isBy 8 = .ok (.invokevirtual 162, 3) := by decide +kernel
theorem dX10_isBy_11 : decode cX10_isBy 11 = .ok (.ifCond .eq 7, 3) := by decide +kernel
theorem dX10_isBy_14 : decode cX10_isBy 14 = .ok (.iconst 1, 1) := by decide +kernel
theorem dX10_isBy_15 : decode cX10_isBy 15 = .ok (.goto 4, 3) := by decide +kernel
theorem dX10_isBy_18 : decode cX10_isBy 18 = .ok (.iconst 0, 1) := by decide +kernel
theorem dX10_isBy_19 : decode cX10_isBy 19 = .ok (.ireturn, 1) := by decide +kernel
theorem dX10_sharesRow_0 : decode cX10_sharesRow 0 = .ok (.aload_n 0, 1) := by decide +kernel
theorem dX10_sharesRow_1 : decode cX10_sharesRow 1 = .ok (.iload_n 1, 1) := by decide +kernel
theorem dX10_sharesRow_2 : decode cX10_sharesRow 2 = .ok (.aload_n 0, 1) := by decide +kernel
theorem dX10_sharesRow_3 : decode cX10_sharesRow 3 = .ok (.invokevirtual 144, 3) := by decide +kernel
theorem dX10_sharesRow_6 : decode cX10_sharesRow 6 = .ok (.invokevirtual 206, 3) := by decide +kernel
theorem dX10_sharesRow_9 : decode cX10_sharesRow 9 = .ok (.pop, 1) := by decide +kernel
theorem dX10_sharesRow_10 : decode cX10_sharesRow 10 = .ok (.iconst 0, 1) := by decide +kernel
theorem dX10_sharesRow_11 : decode cX10_sharesRow 11 = .ok (.istore_n 2, 1) := by decide +kernel
theorem dX10_sharesRow_12 : decode cX10_sharesRow 12 = .ok (.iload_n 2, 1) := by decide +kernel
theorem dX10_sharesRow_13 : decode cX10_sharesRow 13 = .ok (.aload_n 0, 1) := by decide +kernel
theorem dX10_sharesRow_14 : decode cX10_sharesRow 14 = .ok (.invokevirtual 144, 3) := by decide +kernel
theorem dX10_sharesRow_17 : decode cX10_sharesRow 17 = .ok (.if_icmp .ge 21, 3) := by decide +kernel
theorem dX10_sharesRow_20 : decode cX10_sharesRow 20 = .ok (.aload_n 0, 1) := by decide +kernel
theorem dX10_sharesRow_21 : decode cX10_sharesRow 21 = .ok (.iload_n 1, 1) := by decide +kernel
theorem dX10_sharesRow_22 : decode cX10_sharesRow 22 = .ok (.iload_n 2, 1) := by decide +kernel
theorem dX10_sharesRow_23 : decode cX10_sharesRow 23 = .ok (.aload_n 0, 1) := by decide +kernel
theorem dX10_sharesRow_24 : decode cX10_sharesRow 24 = .ok (.getfield 50, 3) := by decide +kernel
theorem dX10_sharesRow_27 : decode cX10_sharesRow 27 = .ok (.iload_n 2, 1) := by decide +kernel
theorem dX10_sharesRow_28 : decode cX10_sharesRow 28 = .ok (.iaload, 1) := by decide +kernel
theorem dX10_sharesRow_29 : decode cX10_sharesRow 29 = .ok (.invokevirtual 106, 3) := by decide +kernel
theorem dX10_sharesRow_32 : decode cX10_sharesRow 32 = .ok (.iinc 2 1, 3) := by decide +kernel
theorem dX10_sharesRow_35 : decode cX10_sharesRow 35 = .ok (.goto (-23), 3) := by decide +kernel
theorem dX10_sharesRow_38 : decode cX10_sharesRow 38 = .ok (.return_, 1) := by decide +kernel
theorem dX10_guess_0 : decode cX10_guess 0 = .ok (.aload_n 0, 1) := by decide +kernel
theorem dX10_guess_1 : decode cX10_guess 1 = .ok (.iload_n 1, 1) := by decide +kernel
theorem dX10_guess_2 : decode cX10_guess 2 = .ok (.invokevirtual 162, 3) := by decide +kernel
theorem dX10_guess_5 : decode cX10_guess 5 = .ok (.ifCond .eq 26, 3) := by decide +kernel
theorem dX10_guess_8 : decode cX10_guess 8 = .ok (.iload_n 2, 1) := by decide +kernel
theorem dX10_guess_9 : decode cX10_guess 9 = .ok (.invokestatic 95, 3) := by decide +kernel
theorem dX10_guess_12 : decode cX10_guess 12 = .ok (.ifCond .eq 19, 3) := by decide +kernel
theorem dX10_guess_15 : decode cX10_guess 15 = .ok (.aload_n 0, 1) := by decide +kernel
theorem dX10_guess_16 : decode cX10_guess 16 = .ok (.iload_n 3, 1) := by decide +kernel
theorem dX10_guess_17 : decode cX10_guess 17 = .ok (.invokevirtual 209, 3) := by decide +kernel
theorem dX10_guess_20 : decode cX10_guess 20 = .ok (.ifCond .eq 11, 3) := by decide +kernel
theorem dX10_guess_23 : decode cX10_guess 23 = .ok (.iload 4, 2) := by decide +kernel
theorem dX10_guess_25 : decode cX10_guess 25 = .ok (.invokestatic 95, 3) := by decide +kernel
theorem dX10_guess_28 : decode cX10_guess 28 = .ok (.ifCond .ne 5, 3) := by decide +kernel
theorem dX10_guess_31 : decode cX10_guess 31 = .ok (.iconst (-1), 1) := by decide +kernel
theorem dX10_guess_32 : decode cX10_guess 32 = .ok (.ireturn, 1) := by decide +kernel
theorem dX10_guess_33 : decode cX10_guess 33 = .ok (.aload_n 0, 1) := by decide +kernel
theorem dX10_guess_34 : decode cX10_guess 34 = .ok (.iload_n 2, 1) := by decide +kernel
theorem dX10_guess_35 : decode cX10_guess 35 = .ok (.invokevirtual 212, 3) := by decide +kernel
theorem dX10_guess_38 : decode cX10_guess 38 = .ok (.istore 5, 2) := by decide +kernel
theorem dX10_guess_40 : decode cX10_guess 40 = .ok (.iload 5, 2) := by decide +kernel
theorem dX10_guess_42 : decode cX10_guess 42 = .ok (.ifCond .ge 6, 3) := by decide +kernel
theorem dX10_guess_45 : decode cX10_guess 45 = .ok (.iload 5, 2) := by decide +kernel
theorem dX10_guess_47 : decode cX10_guess 47 = .ok (.ireturn, 1) := by decide +kernel
theorem dX10_guess_48 : decode cX10_guess 48 = .ok (.aload_n 0, 1) := by decide +kernel
theorem dX10_guess_49 : decode cX10_guess 49 = .ok (.iload_n 2, 1) := by decide +kernel
theorem dX10_guess_50 : decode cX10_guess 50 = .ok (.aload_n 0, 1) := by decide +kernel
theorem dX10_guess_51 : decode cX10_guess 51 = .ok (.getfield 17, 3) := by decide +kernel
theorem dX10_guess_54 : decode cX10_guess 54 = .ok (.iload_n 2, 1) := by decide +kernel
theorem dX10_guess_55 : decode cX10_guess 55 = .ok (.iaload, 1) := by decide +kernel
theorem dX10_guess_56 : decode cX10_guess 56 = .ok (.invokevirtual 215, 3) := by decide +kernel
theorem dX10_guess_59 : decode cX10_guess 59 = .ok (.aload_n 0, 1) := by decide +kernel
theorem dX10_guess_60 : decode cX10_guess 60 = .ok (.iload_n 1, 1) := by decide +kernel
theorem dX10_guess_61 : decode cX10_guess 61 = .ok (.iload_n 3, 1) := by decide +kernel
theorem dX10_guess_62 : decode cX10_guess 62 = .ok (.invokevirtual 193, 3) := by decide +kernel
theorem dX10_guess_65 : decode cX10_guess 65 = .ok (.aload_n 0, 1) := by decide +kernel
theorem dX10_guess_66 : decode cX10_guess 66 = .ok (.iload 4, 2) := by decide +kernel
theorem dX10_guess_68 : decode cX10_guess 68 = .ok (.invokevirtual 218, 3) := by decide +kernel
theorem dX10_guess_71 : decode cX10_guess 71 = .ok (.aload_n 0, 1) := by decide +kernel
theorem dX10_guess_72 : decode cX10_guess 72 = .ok (.invokevirtual 200, 3) := by decide +kernel
theorem dX10_guess_75 : decode cX10_guess 75 = .ok (.ireturn, 1) := by decide +kernel
theorem dX10_setStep_0 : decode cX10_setStep 0 = .ok (.aload_n 0, 1) := by decide +kernel
theorem dX10_setStep_1 : decode cX10_setStep 1 = .ok (.iload_n 1, 1) := by decide +kernel
theorem dX10_setStep_2 : decode cX10_setStep 2 = .ok (.iload_n 3, 1) := by decide +kernel
theorem dX10_setStep_3 : decode cX10_setStep 3 = .ok (.invokevirtual 190, 3) := by decide +kernel
theorem dX10_setStep_6 : decode cX10_setStep 6 = .ok (.aload_n 0, 1) := by decide +kernel
theorem dX10_setStep_7 : decode cX10_setStep 7 = .ok (.iload_n 2, 1) := by decide +kernel
theorem dX10_setStep_8 : decode cX10_setStep 8 = .ok (.iload_n 1, 1) := by decide +kernel
theorem dX10_setStep_9 : decode cX10_setStep 9 = .ok (.invokevirtual 193, 3) := by decide +kernel
theorem dX10_setStep_12 : decode cX10_setStep 12 = .ok (.return_, 1) := by decide +kernel
theorem dX10_step_0 : decode cX10_step 0 = .ok (.aload_n 0, 1) := by decide +kernel
theorem dX10_step_1 : decode cX10_step 1 = .ok (.iload_n 1, 1) := by decide +kernel
theorem dX10_step_2 : decode cX10_step 2 = .ok (.invokevirtual 162, 3) := by decide +kernel
theorem dX10_step_5 : decode cX10_step 5 = .ok (.ifCond .eq 32, 3) := by decide +kernel
theorem dX10_step_8 : decode cX10_step 8 = .ok (.aload_n 0, 1) := by decide +kernel
theorem dX10_step_9 : decode cX10_step 9 = .ok (.iload_n 2, 1) := by decide +kernel
theorem dX10_step_10 : decode cX10_step 10 = .ok (.invokevirtual 162, 3) := by decide +kernel
theorem dX10_step_13 : decode cX10_step 13 = .ok (.ifCond .eq 24, 3) := by decide +kernel
theorem dX10_step_16 : decode cX10_step 16 = .ok (.iload_n 1, 1) := by decide +kernel
theorem dX10_step_17 : decode cX10_step 17 = .ok (.iload_n 2, 1) := by decide +kernel
theorem dX10_step_18 : decode cX10_step 18 = .ok (.if_icmp .eq 19, 3) := by decide +kernel
theorem dX10_step_21 : decode cX10_step 21 = .ok (.aload_n 0, 1) := by decide +kernel
theorem dX10_step_22 : decode cX10_step 22 = .ok (.iload_n 3, 1) := by decide +kernel
theorem dX10_step_23 : decode cX10_step 23 = .ok (.invokevirtual 151, 3) := by decide +kernel
theorem dX10_step_26 : decode cX10_step 26 = .ok (.ifCond .eq 11, 3) := by decide +kernel
theorem dX10_step_29 : decode cX10_step 29 = .ok (.iload 4, 2) := by decide +kernel
theorem dX10_step_31 : decode cX10_step 31 = .ok (.invokestatic 95, 3) := by decide +kernel
theorem dX10_step_34 : decode cX10_step 34 = .ok (.ifCond .ne 5, 3) := by decide +kernel
theorem dX10_step_37 : decode cX10_step 37 = .ok (.iconst (-1), 1) := by decide +kernel
theorem dX10_step_38 : decode cX10_step 38 = .ok (.ireturn, 1) := by decide +kernel
theorem dX10_step_39 : decode cX10_step 39 = .ok (.aload_n 0, 1) := by decide +kernel
theorem dX10_step_40 : decode cX10_step 40 = .ok (.iload_n 1, 1) := by decide +kernel
theorem dX10_step_41 : decode cX10_step 41 = .ok (.iload_n 2, 1) := by decide +kernel
theorem dX10_step_42 : decode cX10_step 42 = .ok (.iload_n 3, 1) := by decide +kernel
theorem dX10_step_43 : decode cX10_step 43 = .ok (.invokevirtual 221, 3) := by decide +kernel
theorem dX10_step_46 : decode cX10_step 46 = .ok (.aload_n 0, 1) := by decide +kernel
theorem dX10_step_47 : decode cX10_step 47 = .ok (.iload 4, 2) := by decide +kernel
theorem dX10_step_49 : decode cX10_step 49 = .ok (.invokevirtual 218, 3) := by decide +kernel
theorem dX10_step_52 : decode cX10_step 52 = .ok (.aload_n 0, 1) := by decide +kernel
theorem dX10_step_53 : decode cX10_step 53 = .ok (.getfield 50, 3) := by decide +kernel
theorem dX10_step_56 : decode cX10_step 56 = .ok (.iload_n 3, 1) := by decide +kernel
theorem dX10_step_57 : decode cX10_step 57 = .ok (.iaload, 1) := by decide +kernel
theorem dX10_step_58 : decode cX10_step 58 = .ok (.ireturn, 1) := by decide +kernel
theorem dX10_askedTable_0 : decode cX10_askedTable 0 = .ok (.aload_n 0, 1) := by decide +kernel
theorem dX10_askedTable_1 : decode cX10_askedTable 1 = .ok (.getfield 17, 3) := by decide +kernel
theorem dX10_askedTable_4 : decode cX10_askedTable 4 = .ok (.iload_n 1, 1) := by decide +kernel
theorem dX10_askedTable_5 : decode cX10_askedTable 5 = .ok (.iaload, 1) := by decide +kernel
theorem dX10_askedTable_6 : decode cX10_askedTable 6 = .ok (.ifCond .ge 9, 3) := by decide +kernel
theorem dX10_askedTable_9 : decode cX10_askedTable 9 = .ok (.aload_n 0, 1) := by decide +kernel
theorem dX10_askedTable_10 : decode cX10_askedTable 10 = .ok (.iconst 1, 1) := by decide +kernel
theorem dX10_askedTable_11 : decode cX10_askedTable 11 = .ok (.invokevirtual 99, 3) := by decide +kernel
theorem dX10_askedTable_14 : decode cX10_askedTable 14 = .ok (.ireturn, 1) := by decide +kernel
theorem dX10_askedTable_15 : decode cX10_askedTable 15 = .ok (.aload_n 0, 1) := by decide +kernel
theorem dX10_askedTable_16 : decode cX10_askedTable 16 = .ok (.getfield 17, 3) := by decide +kernel
theorem dX10_askedTable_19 : decode cX10_askedTable 19 = .ok (.iload_n 1, 1) := by decide +kernel
theorem dX10_askedTable_20 : decode cX10_askedTable 20 = .ok (.iaload, 1) := by decide +kernel
theorem dX10_askedTable_21 : decode cX10_askedTable 21 = .ok (.iconst 2, 1) := by decide +kernel
theorem dX10_askedTable_22 : decode cX10_askedTable 22 = .ok (.bipush 8, 2) := by decide +kernel
theorem dX10_askedTable_24 : decode cX10_askedTable 24 = .ok (.invokestatic 91, 3) := by decide +kernel
theorem dX10_askedTable_27 : decode cX10_askedTable 27 = .ok (.ifCond .eq 15, 3) := by decide +kernel
theorem dX10_askedTable_30 : decode cX10_askedTable 30 = .ok (.aload_n 0, 1) := by decide +kernel
theorem dX10_askedTable_31 : decode cX10_askedTable 31 = .ok (.getfield 17, 3) := by decide +kernel
theorem dX10_askedTable_34 : decode cX10_askedTable 34 = .ok (.iload_n 1, 1) := by decide +kernel
theorem dX10_askedTable_35 : decode cX10_askedTable 35 = .ok (.iaload, 1) := by decide +kernel
theorem dX10_askedTable_36 : decode cX10_askedTable 36 = .ok (.iconst 2, 1) := by decide +kernel
theorem dX10_askedTable_37 : decode cX10_askedTable 37 = .ok (.irem, 1) := by decide +kernel
theorem dX10_askedTable_38 : decode cX10_askedTable 38 = .ok (.iconst 1, 1) := by decide +kernel
theorem dX10_askedTable_39 : decode cX10_askedTable 39 = .ok (.if_icmp .ne 9, 3) := by decide +kernel
theorem dX10_askedTable_42 : decode cX10_askedTable 42 = .ok (.aload_n 0, 1) := by decide +kernel
theorem dX10_askedTable_43 : decode cX10_askedTable 43 = .ok (.iconst 5, 1) := by decide +kernel
theorem dX10_askedTable_44 : decode cX10_askedTable 44 = .ok (.invokevirtual 99, 3) := by decide +kernel
theorem dX10_askedTable_47 : decode cX10_askedTable 47 = .ok (.ireturn, 1) := by decide +kernel
theorem dX10_askedTable_48 : decode cX10_askedTable 48 = .ok (.aload_n 0, 1) := by decide +kernel
theorem dX10_askedTable_49 : decode cX10_askedTable 49 = .ok (.iload_n 1, 1) := by decide +kernel
theorem dX10_askedTable_50 : decode cX10_askedTable 50 = .ok (.invokevirtual 224, 3) := by decide +kernel
theorem dX10_askedTable_53 : decode cX10_askedTable 53 = .ok (.ireturn, 1) := by decide +kernel
theorem dX10_askedSeats_0 : decode cX10_askedSeats 0 = .ok (.iconst 0, 1) := by decide +kernel
theorem dX10_askedSeats_1 : decode cX10_askedSeats 1 = .ok (.istore_n 2, 1) := by decide +kernel
theorem dX10_askedSeats_2 : decode cX10_askedSeats 2 = .ok (.iload_n 2, 1) := by decide +kernel
theorem dX10_askedSeats_3 : decode cX10_askedSeats 3 = .ok (.aload_n 0, 1) := by decide +kernel
theorem dX10_askedSeats_4 : decode cX10_askedSeats 4 = .ok (.getfield 17, 3) := by decide +kernel
theorem dX10_askedSeats_7 : decode cX10_askedSeats 7 = .ok (.iload_n 1, 1) := by decide +kernel
theorem dX10_askedSeats_8 : decode cX10_askedSeats 8 = .ok (.iaload, 1) := by decide +kernel
theorem dX10_askedSeats_9 : decode cX10_askedSeats 9 = .ok (.if_icmp .ge 71, 3) := by decide +kernel
theorem dX10_askedSeats_12 : decode cX10_askedSeats 12 = .ok (.aload_n 0, 1) := by decide +kernel
theorem dX10_askedSeats_13 : decode cX10_askedSeats 13 = .ok (.aload_n 0, 1) := by decide +kernel
theorem dX10_askedSeats_14 : decode cX10_askedSeats 14 = .ok (.iload_n 1, 1) := by decide +kernel
theorem dX10_askedSeats_15 : decode cX10_askedSeats 15 = .ok (.iload_n 2, 1) := by decide +kernel
theorem dX10_askedSeats_16 : decode cX10_askedSeats 16 = .ok (.invokevirtual 113, 3) := by decide +kernel
theorem dX10_askedSeats_19 : decode cX10_askedSeats 19 = .ok (.invokevirtual 162, 3) := by decide +kernel
theorem dX10_askedSeats_22 : decode cX10_askedSeats 22 = .ok (.istore_n 3, 1) := by decide +kernel
theorem dX10_askedSeats_23 : decode cX10_askedSeats 23 = .ok (.iconst 0, 1) := by decide +kernel
theorem dX10_askedSeats_24 : decode cX10_askedSeats 24 = .ok (.istore 4, 2) := by decide +kernel
theorem dX10_askedSeats_26 : decode cX10_askedSeats 26 = .ok (.iload 4, 2) := by decide +kernel
theorem dX10_askedSeats_28 : decode cX10_askedSeats 28 = .ok (.iload_n 2, 1) := by decide +kernel
theorem dX10_askedSeats_29 : decode cX10_askedSeats 29 = .ok (.if_icmp .ge 35, 3) := by decide +kernel
theorem dX10_askedSeats_32 : decode cX10_askedSeats 32 = .ok (.iload_n 3, 1) := by decide +kernel
theorem dX10_askedSeats_33 : decode cX10_askedSeats 33 = .ok (.ifCond .eq 23, 3) := by decide +kernel
theorem dX10_askedSeats_36 : decode cX10_askedSeats 36 = .ok (.aload_n 0, 1) := by decide +kernel
theorem dX10_askedSeats_37 : decode cX10_askedSeats 37 = .ok (.iload_n 1, 1) := by decide +kernel
theorem dX10_askedSeats_38 : decode cX10_askedSeats 38 = .ok (.iload_n 2, 1) := by decide +kernel
theorem dX10_askedSeats_39 : decode cX10_askedSeats 39 = .ok (.invokevirtual 113, 3) := by decide +kernel
theorem dX10_askedSeats_42 : decode cX10_askedSeats 42 = .ok (.aload_n 0, 1) := by decide +kernel
theorem dX10_askedSeats_43 : decode cX10_askedSeats 43 = .ok (.iload_n 1, 1) := by decide +kernel
theorem dX10_askedSeats_44 : decode cX10_askedSeats 44 = .ok (.iload 4, 2) := by decide +kernel
theorem dX10_askedSeats_46 : decode cX10_askedSeats 46 = .ok (.invokevirtual 113, 3) := by decide +kernel
theorem dX10_askedSeats_49 : decode cX10_askedSeats 49 = .ok (.if_icmp .eq 7, 3) := by decide +kernel
theorem dX10_askedSeats_52 : decode cX10_askedSeats 52 = .ok (.iconst 1, 1) := by decide +kernel
theorem dX10_askedSeats_53 : decode cX10_askedSeats 53 = .ok (.goto 4, 3) := by decide +kernel
theorem dX10_askedSeats_56 : decode cX10_askedSeats 56 = .ok (.iconst 0, 1) := by decide +kernel
theorem dX10_askedSeats_57 : decode cX10_askedSeats 57 = .ok (.istore_n 3, 1) := by decide +kernel
theorem dX10_askedSeats_58 : decode cX10_askedSeats 58 = .ok (.iinc 4 1, 3) := by decide +kernel
theorem dX10_askedSeats_61 : decode cX10_askedSeats 61 = .ok (.goto (-35), 3) := by decide +kernel
theorem dX10_askedSeats_64 : decode cX10_askedSeats 64 = .ok (.iload_n 3, 1) := by decide +kernel
theorem dX10_askedSeats_65 : decode cX10_askedSeats 65 = .ok (.ifCond .ne 9, 3) := by decide +kernel
theorem dX10_askedSeats_68 : decode cX10_askedSeats 68 = .ok (.aload_n 0, 1) := by decide +kernel
theorem dX10_askedSeats_69 : decode cX10_askedSeats 69 = .ok (.iconst 3, 1) := by decide +kernel
theorem dX10_askedSeats_70 : decode cX10_askedSeats 70 = .ok (.invokevirtual 99, 3) := by decide +kernel
theorem dX10_askedSeats_73 : decode cX10_askedSeats 73 = .ok (.ireturn, 1) := by decide +kernel
theorem dX10_askedSeats_74 : decode cX10_askedSeats 74 = .ok (.iinc 2 1, 3) := by decide +kernel
theorem dX10_askedSeats_77 : decode cX10_askedSeats 77 = .ok (.goto (-75), 3) := by decide +kernel
theorem dX10_askedSeats_80 : decode cX10_askedSeats 80 = .ok (.aload_n 0, 1) := by decide +kernel
theorem dX10_askedSeats_81 : decode cX10_askedSeats 81 = .ok (.aload_n 0, 1) := by decide +kernel
theorem dX10_askedSeats_82 : decode cX10_askedSeats 82 = .ok (.getfield 17, 3) := by decide +kernel
theorem dX10_askedSeats_85 : decode cX10_askedSeats 85 = .ok (.iload_n 1, 1) := by decide +kernel
theorem dX10_askedSeats_86 : decode cX10_askedSeats 86 = .ok (.iaload, 1) := by decide +kernel
theorem dX10_askedSeats_87 : decode cX10_askedSeats 87 = .ok (.putfield 227, 3) := by decide +kernel
theorem dX10_askedSeats_90 : decode cX10_askedSeats 90 = .ok (.iconst 0, 1) := by decide +kernel
theorem dX10_askedSeats_91 : decode cX10_askedSeats 91 = .ok (.istore_n 2, 1) := by decide +kernel
theorem dX10_askedSeats_92 : decode cX10_askedSeats 92 = .ok (.iload_n 2, 1) := by decide +kernel
theorem dX10_askedSeats_93 : decode cX10_askedSeats 93 = .ok (.aload_n 0, 1) := by decide +kernel
theorem dX10_askedSeats_94 : decode cX10_askedSeats 94 = .ok (.getfield 227, 3) := by decide +kernel
theorem dX10_askedSeats_97 : decode cX10_askedSeats 97 = .ok (.if_icmp .ge 21, 3) := by decide +kernel
theorem dX10_askedSeats_100 : decode cX10_askedSeats 100 = .ok (.aload_n 0, 1) := by decide +kernel
theorem dX10_askedSeats_101 : decode cX10_askedSeats 101 = .ok (.getfield 53, 3) := by decide +kernel
theorem dX10_askedSeats_104 : decode cX10_askedSeats 104 = .ok (.iload_n 2, 1) := by decide +kernel
theorem dX10_askedSeats_105 : decode cX10_askedSeats 105 = .ok (.aload_n 0, 1) := by decide +kernel
theorem dX10_askedSeats_106 : decode cX10_askedSeats 106 = .ok (.iload_n 1, 1) := by decide +kernel
theorem dX10_askedSeats_107 : decode cX10_askedSeats 107 = .ok (.iload_n 2, 1) := by decide +kernel
theorem dX10_askedSeats_108 : decode cX10_askedSeats 108 = .ok (.invokevirtual 113, 3) := by decide +kernel
theorem dX10_askedSeats_111 : decode cX10_askedSeats 111 = .ok (.iastore, 1) := by decide +kernel
theorem dX10_askedSeats_112 : decode cX10_askedSeats 112 = .ok (.iinc 2 1, 3) := by decide +kernel
theorem dX10_askedSeats_115 : decode cX10_askedSeats 115 = .ok (.goto (-23), 3) := by decide +kernel
theorem dX10_askedSeats_118 : decode cX10_askedSeats 118 = .ok (.iconst 0, 1) := by decide +kernel
theorem dX10_askedSeats_119 : decode cX10_askedSeats 119 = .ok (.ireturn, 1) := by decide +kernel
theorem dX10_steps_0 : decode cX10_steps 0 = .ok (.aload_n 0, 1) := by decide +kernel
theorem dX10_steps_1 : decode cX10_steps 1 = .ok (.getfield 227, 3) := by decide +kernel
theorem dX10_steps_4 : decode cX10_steps 4 = .ok (.iconst 2, 1) := by decide +kernel
theorem dX10_steps_5 : decode cX10_steps 5 = .ok (.idiv, 1) := by decide +kernel
theorem dX10_steps_6 : decode cX10_steps 6 = .ok (.ireturn, 1) := by decide +kernel
theorem dX10_whole_0 : decode cX10_whole 0 = .ok (.lconst 1, 1) := by decide +kernel
theorem dX10_whole_1 : decode cX10_whole 1 = .ok (.lstore_n 1, 1) := by decide +kernel
theorem dX10_whole_2 : decode cX10_whole 2 = .ok (.iconst 0, 1) := by decide +kernel
theorem dX10_whole_3 : decode cX10_whole 3 = .ok (.istore_n 3, 1) := by decide +kernel
theorem dX10_whole_4 : decode cX10_whole 4 = .ok (.iload_n 3, 1) := by decide +kernel
theorem dX10_whole_5 : decode cX10_whole 5 = .ok (.iload_n 0, 1) := by decide +kernel
theorem dX10_whole_6 : decode cX10_whole 6 = .ok (.if_icmp .ge 15, 3) := by decide +kernel
theorem dX10_whole_9 : decode cX10_whole 9 = .ok (.lload_n 1, 1) := by decide +kernel
theorem dX10_whole_10 : decode cX10_whole 10 = .ok (.ldc2_w 230, 3) := by decide +kernel
theorem dX10_whole_13 : decode cX10_whole 13 = .ok (.lmul, 1) := by decide +kernel
theorem dX10_whole_14 : decode cX10_whole 14 = .ok (.lstore_n 1, 1) := by decide +kernel
theorem dX10_whole_15 : decode cX10_whole 15 = .ok (.iinc 3 1, 3) := by decide +kernel
theorem dX10_whole_18 : decode cX10_whole 18 = .ok (.goto (-14), 3) := by decide +kernel
theorem dX10_whole_21 : decode cX10_whole 21 = .ok (.lload_n 1, 1) := by decide +kernel
theorem dX10_whole_22 : decode cX10_whole 22 = .ok (.lreturn, 1) := by decide +kernel
theorem dX10_goOn_0 : decode cX10_goOn 0 = .ok (.aload_n 0, 1) := by decide +kernel
theorem dX10_goOn_1 : decode cX10_goOn 1 = .ok (.getfield 53, 3) := by decide +kernel
theorem dX10_goOn_4 : decode cX10_goOn 4 = .ok (.iload_n 1, 1) := by decide +kernel
theorem dX10_goOn_5 : decode cX10_goOn 5 = .ok (.iconst 2, 1) := by decide +kernel
theorem dX10_goOn_6 : decode cX10_goOn 6 = .ok (.iload_n 2, 1) := by decide +kernel
theorem dX10_goOn_7 : decode cX10_goOn 7 = .ok (.imul, 1) := by decide +kernel
theorem dX10_goOn_8 : decode cX10_goOn 8 = .ok (.iadd, 1) := by decide +kernel
theorem dX10_goOn_9 : decode cX10_goOn 9 = .ok (.aload_n 0, 1) := by decide +kernel
theorem dX10_goOn_10 : decode cX10_goOn 10 = .ok (.getfield 227, 3) := by decide +kernel
theorem dX10_goOn_13 : decode cX10_goOn 13 = .ok (.irem, 1) := by decide +kernel
theorem dX10_goOn_14 : decode cX10_goOn 14 = .ok (.iaload, 1) := by decide +kernel
theorem dX10_goOn_15 : decode cX10_goOn 15 = .ok (.istore_n 3, 1) := by decide +kernel
theorem dX10_goOn_16 : decode cX10_goOn 16 = .ok (.aload_n 0, 1) := by decide +kernel
theorem dX10_goOn_17 : decode cX10_goOn 17 = .ok (.getfield 53, 3) := by decide +kernel
theorem dX10_goOn_20 : decode cX10_goOn 20 = .ok (.iload_n 1, 1) := by decide +kernel
theorem dX10_goOn_21 : decode cX10_goOn 21 = .ok (.iconst 2, 1) := by decide +kernel
theorem dX10_goOn_22 : decode cX10_goOn 22 = .ok (.iload_n 2, 1) := by decide +kernel
theorem dX10_goOn_23 : decode cX10_goOn 23 = .ok (.imul, 1) := by decide +kernel
theorem dX10_goOn_24 : decode cX10_goOn 24 = .ok (.iadd, 1) := by decide +kernel
theorem dX10_goOn_25 : decode cX10_goOn 25 = .ok (.iconst 1, 1) := by decide +kernel
theorem dX10_goOn_26 : decode cX10_goOn 26 = .ok (.iadd, 1) := by decide +kernel
theorem dX10_goOn_27 : decode cX10_goOn 27 = .ok (.aload_n 0, 1) := by decide +kernel
theorem dX10_goOn_28 : decode cX10_goOn 28 = .ok (.getfield 227, 3) := by decide +kernel
theorem dX10_goOn_31 : decode cX10_goOn 31 = .ok (.irem, 1) := by decide +kernel
theorem dX10_goOn_32 : decode cX10_goOn 32 = .ok (.iaload, 1) := by decide +kernel
theorem dX10_goOn_33 : decode cX10_goOn 33 = .ok (.istore 4, 2) := by decide +kernel
theorem dX10_goOn_35 : decode cX10_goOn 35 = .ok (.iconst 0, 1) := by decide +kernel
theorem dX10_goOn_36 : decode cX10_goOn 36 = .ok (.istore 5, 2) := by decide +kernel
theorem dX10_goOn_38 : decode cX10_goOn 38 = .ok (.iload 5, 2) := by decide +kernel
theorem dX10_goOn_40 : decode cX10_goOn 40 = .ok (.aload_n 0, 1) := by decide +kernel
theorem dX10_goOn_41 : decode cX10_goOn 41 = .ok (.invokevirtual 144, 3) := by decide +kernel
theorem dX10_goOn_44 : decode cX10_goOn 44 = .ok (.if_icmp .ge 17, 3) := by decide +kernel
theorem dX10_goOn_47 : decode cX10_goOn 47 = .ok (.aload_n 0, 1) := by decide +kernel
theorem dX10_goOn_48 : decode cX10_goOn 48 = .ok (.getfield 60, 3) := by decide +kernel
theorem dX10_goOn_51 : decode cX10_goOn 51 = .ok (.iload 5, 2) := by decide +kernel
theorem dX10_goOn_53 : decode cX10_goOn 53 = .ok (.lconst 0, 1) := by decide +kernel
theorem dX10_goOn_54 : decode cX10_goOn 54 = .ok (.lastore, 1) := by decide +kernel
theorem dX10_goOn_55 : decode cX10_goOn 55 = .ok (.iinc 5 1, 3) := by decide +kernel
theorem dX10_goOn_58 : decode cX10_goOn 58 = .ok (.goto (-20), 3) := by decide +kernel
theorem dX10_goOn_61 : decode cX10_goOn 61 = .ok (.iconst 0, 1) := by decide +kernel
theorem dX10_goOn_62 : decode cX10_goOn 62 = .ok (.istore 5, 2) := by decide +kernel
theorem dX10_goOn_64 : decode cX10_goOn 64 = .ok (.iload 5, 2) := by decide +kernel
theorem dX10_goOn_66 : decode cX10_goOn 66 = .ok (.aload_n 0, 1) := by decide +kernel
theorem dX10_goOn_67 : decode cX10_goOn 67 = .ok (.invokevirtual 144, 3) := by decide +kernel
theorem dX10_goOn_70 : decode cX10_goOn 70 = .ok (.if_icmp .ge 74, 3) := by decide +kernel
theorem dX10_goOn_73 : decode cX10_goOn 73 = .ok (.aload_n 0, 1) := by decide +kernel
theorem dX10_goOn_74 : decode cX10_goOn 74 = .ok (.getfield 56, 3) := by decide +kernel
theorem dX10_goOn_77 : decode cX10_goOn 77 = .ok (.iload 5, 2) := by decide +kernel
theorem dX10_goOn_79 : decode cX10_goOn 79 = .ok (.laload, 1) := by decide +kernel
theorem dX10_goOn_80 : decode cX10_goOn 80 = .ok (.lconst 0, 1) := by decide +kernel
theorem dX10_goOn_81 : decode cX10_goOn 81 = .ok (.lcmp, 1) := by decide +kernel
theorem dX10_goOn_82 : decode cX10_goOn 82 = .ok (.ifCond .le 56, 3) := by decide +kernel
theorem dX10_goOn_85 : decode cX10_goOn 85 = .ok (.aload_n 0, 1) := by decide +kernel
theorem dX10_goOn_86 : decode cX10_goOn 86 = .ok (.iload_n 3, 1) := by decide +kernel
theorem dX10_goOn_87 : decode cX10_goOn 87 = .ok (.iload 4, 2) := by decide +kernel
theorem dX10_goOn_89 : decode cX10_goOn 89 = .ok (.iload 5, 2) := by decide +kernel
theorem dX10_goOn_91 : decode cX10_goOn 91 = .ok (.invokevirtual 221, 3) := by decide +kernel
theorem dX10_goOn_94 : decode cX10_goOn 94 = .ok (.iconst 0, 1) := by decide +kernel
theorem dX10_goOn_95 : decode cX10_goOn 95 = .ok (.istore 6, 2) := by decide +kernel
theorem dX10_goOn_97 : decode cX10_goOn 97 = .ok (.iload 6, 2) := by decide +kernel
theorem dX10_goOn_99 : decode cX10_goOn 99 = .ok (.aload_n 0, 1) := by decide +kernel
theorem dX10_goOn_100 : decode cX10_goOn 100 = .ok (.invokevirtual 144, 3) := by decide +kernel
theorem dX10_goOn_103 : decode cX10_goOn 103 = .ok (.if_icmp .ge 35, 3) := by decide +kernel
theorem dX10_goOn_106 : decode cX10_goOn 106 = .ok (.aload_n 0, 1) := by decide +kernel
theorem dX10_goOn_107 : decode cX10_goOn 107 = .ok (.getfield 60, 3) := by decide +kernel
theorem dX10_goOn_110 : decode cX10_goOn 110 = .ok (.iload 6, 2) := by decide +kernel
theorem dX10_goOn_112 : decode cX10_goOn 112 = .ok (.dup2, 1) := by decide +kernel
theorem dX10_goOn_113 : decode cX10_goOn 113 = .ok (.laload, 1) := by decide +kernel
theorem dX10_goOn_114 : decode cX10_goOn 114 = .ok (.aload_n 0, 1) := by decide +kernel
theorem dX10_goOn_115 : decode cX10_goOn 115 = .ok (.getfield 56, 3) := by decide +kernel
theorem dX10_goOn_118 : decode cX10_goOn 118 = .ok (.iload 5, 2) := by decide +kernel
theorem dX10_goOn_120 : decode cX10_goOn 120 = .ok (.laload, 1) := by decide +kernel
theorem dX10_goOn_121 : decode cX10_goOn 121 = .ok (.aload_n 0, 1) := by decide +kernel
theorem dX10_goOn_122 : decode cX10_goOn 122 = .ok (.getfield 50, 3) := by decide +kernel
theorem dX10_goOn_125 : decode cX10_goOn 125 = .ok (.iload 6, 2) := by decide +kernel
theorem dX10_goOn_127 : decode cX10_goOn 127 = .ok (.iaload, 1) := by decide +kernel
theorem dX10_goOn_128 : decode cX10_goOn 128 = .ok (.i2l, 1) := by decide +kernel
theorem dX10_goOn_129 : decode cX10_goOn 129 = .ok (.lmul, 1) := by decide +kernel
theorem dX10_goOn_130 : decode cX10_goOn 130 = .ok (.ladd, 1) := by decide +kernel
theorem dX10_goOn_131 : decode cX10_goOn 131 = .ok (.lastore, 1) := by decide +kernel
theorem dX10_goOn_132 : decode cX10_goOn 132 = .ok (.iinc 6 1, 3) := by decide +kernel
theorem dX10_goOn_135 : decode cX10_goOn 135 = .ok (.goto (-38), 3) := by decide +kernel
theorem dX10_goOn_138 : decode cX10_goOn 138 = .ok (.iinc 5 1, 3) := by decide +kernel
theorem dX10_goOn_141 : decode cX10_goOn 141 = .ok (.goto (-77), 3) := by decide +kernel
theorem dX10_goOn_144 : decode cX10_goOn 144 = .ok (.iconst 0, 1) := by decide +kernel
theorem dX10_goOn_145 : decode cX10_goOn 145 = .ok (.istore 5, 2) := by decide +kernel
theorem dX10_goOn_147 : decode cX10_goOn 147 = .ok (.iload 5, 2) := by decide +kernel
theorem dX10_goOn_149 : decode cX10_goOn 149 = .ok (.aload_n 0, 1) := by decide +kernel
theorem dX10_goOn_150 : decode cX10_goOn 150 = .ok (.invokevirtual 144, 3) := by decide +kernel
theorem dX10_goOn_153 : decode cX10_goOn 153 = .ok (.if_icmp .ge 23, 3) := by decide +kernel
theorem dX10_goOn_156 : decode cX10_goOn 156 = .ok (.aload_n 0, 1) := by decide +kernel
theorem dX10_goOn_157 : decode cX10_goOn 157 = .ok (.getfield 56, 3) := by decide +kernel
theorem dX10_goOn_160 : decode cX10_goOn 160 = .ok (.iload 5, 2) := by decide +kernel
theorem dX10_goOn_162 : decode cX10_goOn 162 = .ok (.aload_n 0, 1) := by decide +kernel
theorem dX10_goOn_163 : decode cX10_goOn 163 = .ok (.getfield 60, 3) := by decide +kernel
theorem dX10_goOn_166 : decode cX10_goOn 166 = .ok (.iload 5, 2) := by decide +kernel
theorem dX10_goOn_168 : decode cX10_goOn 168 = .ok (.laload, 1) := by decide +kernel
theorem dX10_goOn_169 : decode cX10_goOn 169 = .ok (.lastore, 1) := by decide +kernel
theorem dX10_goOn_170 : decode cX10_goOn 170 = .ok (.iinc 5 1, 3) := by decide +kernel
theorem dX10_goOn_173 : decode cX10_goOn 173 = .ok (.goto (-26), 3) := by decide +kernel
theorem dX10_goOn_176 : decode cX10_goOn 176 = .ok (.return_, 1) := by decide +kernel
theorem dX10_setOdds_0 : decode cX10_setOdds 0 = .ok (.iconst 0, 1) := by decide +kernel
theorem dX10_setOdds_1 : decode cX10_setOdds 1 = .ok (.istore_n 3, 1) := by decide +kernel
theorem dX10_setOdds_2 : decode cX10_setOdds 2 = .ok (.iload_n 3, 1) := by decide +kernel
theorem dX10_setOdds_3 : decode cX10_setOdds 3 = .ok (.aload_n 0, 1) := by decide +kernel
theorem dX10_setOdds_4 : decode cX10_setOdds 4 = .ok (.invokevirtual 144, 3) := by decide +kernel
theorem dX10_setOdds_7 : decode cX10_setOdds 7 = .ok (.if_icmp .ge 25, 3) := by decide +kernel
theorem dX10_setOdds_10 : decode cX10_setOdds 10 = .ok (.aload_n 0, 1) := by decide +kernel
theorem dX10_setOdds_11 : decode cX10_setOdds 11 = .ok (.getfield 56, 3) := by decide +kernel
theorem dX10_setOdds_14 : decode cX10_setOdds 14 = .ok (.iload_n 3, 1) := by decide +kernel
theorem dX10_setOdds_15 : decode cX10_setOdds 15 = .ok (.iload_n 3, 1) := by decide +kernel
theorem dX10_setOdds_16 : decode cX10_setOdds 16 = .ok (.iload_n 2, 1) := by decide +kernel
theorem dX10_setOdds_17 : decode cX10_setOdds 17 = .ok (.if_icmp .ne 7, 3) := by decide +kernel
theorem dX10_setOdds_20 : decode cX10_setOdds 20 = .ok (.lconst 1, 1) := by decide +kernel
theorem dX10_setOdds_21 : decode cX10_setOdds 21 = .ok (.goto 4, 3) := by decide +kernel
theorem dX10_setOdds_24 : decode cX10_setOdds 24 = .ok (.lconst 0, 1) := by decide +kernel
theorem dX10_setOdds_25 : decode cX10_setOdds 25 = .ok (.lastore, 1) := by decide +kernel
theorem dX10_setOdds_26 : decode cX10_setOdds 26 = .ok (.iinc 3 1, 3) := by decide +kernel
theorem dX10_setOdds_29 : decode cX10_setOdds 29 = .ok (.goto (-27), 3) := by decide +kernel
theorem dX10_setOdds_32 : decode cX10_setOdds 32 = .ok (.iconst 0, 1) := by decide +kernel
theorem dX10_setOdds_33 : decode cX10_setOdds 33 = .ok (.istore_n 3, 1) := by decide +kernel
theorem dX10_setOdds_34 : decode cX10_setOdds 34 = .ok (.iload_n 3, 1) := by decide +kernel
theorem dX10_setOdds_35 : decode cX10_setOdds 35 = .ok (.aload_n 0, 1) := by decide +kernel
theorem dX10_setOdds_36 : decode cX10_setOdds 36 = .ok (.invokevirtual 232, 3) := by decide +kernel
theorem dX10_setOdds_39 : decode cX10_setOdds 39 = .ok (.if_icmp .ge 15, 3) := by decide +kernel
theorem dX10_setOdds_42 : decode cX10_setOdds 42 = .ok (.aload_n 0, 1) := by decide +kernel
theorem dX10_setOdds_43 : decode cX10_setOdds 43 = .ok (.iload_n 1, 1) := by decide +kernel
theorem dX10_setOdds_44 : decode cX10_setOdds 44 = .ok (.iload_n 3, 1) := by decide +kernel
theorem dX10_setOdds_45 : decode cX10_setOdds 45 = .ok (.invokevirtual 235, 3) := by decide +kernel
theorem dX10_setOdds_48 : decode cX10_setOdds 48 = .ok (.iinc 3 1, 3) := by decide +kernel
theorem dX10_setOdds_51 : decode cX10_setOdds 51 = .ok (.goto (-17), 3) := by decide +kernel
theorem dX10_setOdds_54 : decode cX10_setOdds 54 = .ok (.return_, 1) := by decide +kernel
theorem dX10_askedRound_0 : decode cX10_askedRound 0 = .ok (.iload_n 1, 1) := by decide +kernel
theorem dX10_askedRound_1 : decode cX10_askedRound 1 = .ok (.invokestatic 95, 3) := by decide +kernel
theorem dX10_askedRound_4 : decode cX10_askedRound 4 = .ok (.ifCond .eq 11, 3) := by decide +kernel
theorem dX10_askedRound_7 : decode cX10_askedRound 7 = .ok (.aload_n 0, 1) := by decide +kernel
theorem dX10_askedRound_8 : decode cX10_askedRound 8 = .ok (.iload_n 1, 1) := by decide +kernel
theorem dX10_askedRound_9 : decode cX10_askedRound 9 = .ok (.invokevirtual 238, 3) := by decide +kernel
theorem dX10_askedRound_12 : decode cX10_askedRound 12 = .ok (.goto 4, 3) := by decide +kernel
theorem dX10_askedRound_15 : decode cX10_askedRound 15 = .ok (.iconst (-1), 1) := by decide +kernel
theorem dX10_askedRound_16 : decode cX10_askedRound 16 = .ok (.ireturn, 1) := by decide +kernel
theorem dX10_comes_0 : decode cX10_comes 0 = .ok (.iload_n 1, 1) := by decide +kernel
theorem dX10_comes_1 : decode cX10_comes 1 = .ok (.invokestatic 95, 3) := by decide +kernel
theorem dX10_comes_4 : decode cX10_comes 4 = .ok (.ifCond .eq 19, 3) := by decide +kernel
theorem dX10_comes_7 : decode cX10_comes 7 = .ok (.aload_n 0, 1) := by decide +kernel
theorem dX10_comes_8 : decode cX10_comes 8 = .ok (.iload_n 2, 1) := by decide +kernel
theorem dX10_comes_9 : decode cX10_comes 9 = .ok (.invokevirtual 151, 3) := by decide +kernel
theorem dX10_comes_12 : decode cX10_comes 12 = .ok (.ifCond .eq 11, 3) := by decide +kernel
theorem dX10_comes_15 : decode cX10_comes 15 = .ok (.aload_n 0, 1) := by decide +kernel
theorem dX10_comes_16 : decode cX10_comes 16 = .ok (.iload_n 3, 1) := by decide +kernel
theorem dX10_comes_17 : decode cX10_comes 17 = .ok (.invokevirtual 151, 3) := by decide +kernel
theorem dX10_comes_20 : decode cX10_comes 20 = .ok (.ifCond .ne 5, 3) := by decide +kernel
theorem dX10_comes_23 : decode cX10_comes 23 = .ok (.iconst (-1), 1) := by decide +kernel
theorem dX10_comes_24 : decode cX10_comes 24 = .ok (.ireturn, 1) := by decide +kernel
theorem dX10_comes_25 : decode cX10_comes 25 = .ok (.aload_n 0, 1) := by decide +kernel
theorem dX10_comes_26 : decode cX10_comes 26 = .ok (.iload_n 1, 1) := by decide +kernel
theorem dX10_comes_27 : decode cX10_comes 27 = .ok (.invokevirtual 238, 3) := by decide +kernel
theorem dX10_comes_30 : decode cX10_comes 30 = .ok (.istore 4, 2) := by decide +kernel
theorem dX10_comes_32 : decode cX10_comes 32 = .ok (.iload 4, 2) := by decide +kernel
theorem dX10_comes_34 : decode cX10_comes 34 = .ok (.ifCond .ge 6, 3) := by decide +kernel
theorem dX10_comes_37 : decode cX10_comes 37 = .ok (.iload 4, 2) := by decide +kernel
theorem dX10_comes_39 : decode cX10_comes 39 = .ok (.ireturn, 1) := by decide +kernel
theorem dX10_comes_40 : decode cX10_comes 40 = .ok (.aload_n 0, 1) := by decide +kernel
theorem dX10_comes_41 : decode cX10_comes 41 = .ok (.iconst 0, 1) := by decide +kernel
theorem dX10_comes_42 : decode cX10_comes 42 = .ok (.iload_n 2, 1) := by decide +kernel
theorem dX10_comes_43 : decode cX10_comes 43 = .ok (.invokevirtual 241, 3) := by decide +kernel
theorem dX10_comes_46 : decode cX10_comes 46 = .ok (.aload_n 0, 1) := by decide +kernel
theorem dX10_comes_47 : decode cX10_comes 47 = .ok (.aload_n 0, 1) := by decide +kernel
theorem dX10_comes_48 : decode cX10_comes 48 = .ok (.getfield 56, 3) := by decide +kernel
theorem dX10_comes_51 : decode cX10_comes 51 = .ok (.iload_n 3, 1) := by decide +kernel
theorem dX10_comes_52 : decode cX10_comes 52 = .ok (.laload, 1) := by decide +kernel
theorem dX10_comes_53 : decode cX10_comes 53 = .ok (.aload_n 0, 1) := by decide +kernel
theorem dX10_comes_54 : decode cX10_comes 54 = .ok (.invokevirtual 232, 3) := by decide +kernel
theorem dX10_comes_57 : decode cX10_comes 57 = .ok (.invokestatic 244, 3) := by decide +kernel
theorem dX10_comes_60 : decode cX10_comes 60 = .ok (.iconst 1, 1) := by decide +kernel
theorem dX10_comes_61 : decode cX10_comes 61 = .ok (.invokevirtual 248, 3) := by decide +kernel
theorem dX10_comes_64 : decode cX10_comes 64 = .ok (.ireturn, 1) := by decide +kernel
theorem dX10_most_0 : decode cX10_most 0 = .ok (.aload_n 0, 1) := by decide +kernel
theorem dX10_most_1 : decode cX10_most 1 = .ok (.iload_n 1, 1) := by decide +kernel
theorem dX10_most_2 : decode cX10_most 2 = .ok (.invokevirtual 252, 3) := by decide +kernel
theorem dX10_most_5 : decode cX10_most 5 = .ok (.istore_n 2, 1) := by decide +kernel
theorem dX10_most_6 : decode cX10_most 6 = .ok (.iload_n 2, 1) := by decide +kernel
theorem dX10_most_7 : decode cX10_most 7 = .ok (.ifCond .ge 5, 3) := by decide +kernel
theorem dX10_most_10 : decode cX10_most 10 = .ok (.iload_n 2, 1) := by decide +kernel
theorem dX10_most_11 : decode cX10_most 11 = .ok (.ireturn, 1) := by decide +kernel
theorem dX10_most_12 : decode cX10_most 12 = .ok (.iconst 0, 1) := by decide +kernel
theorem dX10_most_13 : decode cX10_most 13 = .ok (.istore_n 3, 1) := by decide +kernel
theorem dX10_most_14 : decode cX10_most 14 = .ok (.iload_n 3, 1) := by decide +kernel
theorem dX10_most_15 : decode cX10_most 15 = .ok (.bipush 8, 2) := by decide +kernel
theorem dX10_most_17 : decode cX10_most 17 = .ok (.if_icmp .ge 16, 3) := by decide +kernel
theorem dX10_most_20 : decode cX10_most 20 = .ok (.aload_n 0, 1) := by decide +kernel
theorem dX10_most_21 : decode cX10_most 21 = .ok (.getfield 63, 3) := by decide +kernel
theorem dX10_most_24 : decode cX10_most 24 = .ok (.iload_n 3, 1) := by decide +kernel
theorem dX10_most_25 : decode cX10_most 25 = .ok (.lconst 0, 1) := by decide +kernel
theorem dX10_most_26 : decode cX10_most 26 = .ok (.lastore, 1) := by decide +kernel
theorem dX10_most_27 : decode cX10_most 27 = .ok (.iinc 3 1, 3) := by decide +kernel
theorem dX10_most_30 : decode cX10_most 30 = .ok (.goto (-16), 3) := by decide +kernel
theorem dX10_most_33 : decode cX10_most 33 = .ok (.iconst 0, 1) := by decide +kernel
theorem dX10_most_34 : decode cX10_most 34 = .ok (.istore_n 3, 1) := by decide +kernel
theorem dX10_most_35 : decode cX10_most 35 = .ok (.iload_n 3, 1) := by decide +kernel
theorem dX10_most_36 : decode cX10_most 36 = .ok (.aload_n 0, 1) := by decide +kernel
theorem dX10_most_37 : decode cX10_most 37 = .ok (.invokevirtual 144, 3) := by decide +kernel
theorem dX10_most_40 : decode cX10_most 40 = .ok (.if_icmp .ge 50, 3) := by decide +kernel
theorem dX10_most_43 : decode cX10_most 43 = .ok (.aload_n 0, 1) := by decide +kernel
theorem dX10_most_44 : decode cX10_most 44 = .ok (.iconst 0, 1) := by decide +kernel
theorem dX10_most_45 : decode cX10_most 45 = .ok (.iload_n 3, 1) := by decide +kernel
theorem dX10_most_46 : decode cX10_most 46 = .ok (.invokevirtual 241, 3) := by decide +kernel
theorem dX10_most_49 : decode cX10_most 49 = .ok (.iconst 0, 1) := by decide +kernel
theorem dX10_most_50 : decode cX10_most 50 = .ok (.istore 4, 2) := by decide +kernel
theorem dX10_most_52 : decode cX10_most 52 = .ok (.iload 4, 2) := by decide +kernel
theorem dX10_most_54 : decode cX10_most 54 = .ok (.aload_n 0, 1) := by decide +kernel
theorem dX10_most_55 : decode cX10_most 55 = .ok (.invokevirtual 144, 3) := by decide +kernel
theorem dX10_most_58 : decode cX10_most 58 = .ok (.if_icmp .ge 26, 3) := by decide +kernel
theorem dX10_most_61 : decode cX10_most 61 = .ok (.aload_n 0, 1) := by decide +kernel
theorem dX10_most_62 : decode cX10_most 62 = .ok (.getfield 63, 3) := by decide +kernel
theorem dX10_most_65 : decode cX10_most 65 = .ok (.iload 4, 2) := by decide +kernel
theorem dX10_most_67 : decode cX10_most 67 = .ok (.dup2, 1) := by decide +kernel
theorem dX10_most_68 : decode cX10_most 68 = .ok (.laload, 1) := by decide +kernel
theorem dX10_most_69 : decode cX10_most 69 = .ok (.aload_n 0, 1) := by decide +kernel
theorem dX10_most_70 : decode cX10_most 70 = .ok (.getfield 56, 3) := by decide +kernel
theorem dX10_most_73 : decode cX10_most 73 = .ok (.iload 4, 2) := by decide +kernel
theorem dX10_most_75 : decode cX10_most 75 = .ok (.laload, 1) := by decide +kernel
theorem dX10_most_76 : decode cX10_most 76 = .ok (.ladd, 1) := by decide +kernel
theorem dX10_most_77 : decode cX10_most 77 = .ok (.lastore, 1) := by decide +kernel
theorem dX10_most_78 : decode cX10_most 78 = .ok (.iinc 4 1, 3) := by decide +kernel
theorem dX10_most_81 : decode cX10_most 81 = .ok (.goto (-29), 3) := by decide +kernel
theorem dX10_most_84 : decode cX10_most 84 = .ok (.iinc 3 1, 3) := by decide +kernel
theorem dX10_most_87 : decode cX10_most 87 = .ok (.goto (-52), 3) := by decide +kernel
theorem dX10_most_90 : decode cX10_most 90 = .ok (.iconst 0, 1) := by decide +kernel
theorem dX10_most_91 : decode cX10_most 91 = .ok (.istore_n 3, 1) := by decide +kernel
theorem dX10_most_92 : decode cX10_most 92 = .ok (.iconst 1, 1) := by decide +kernel
theorem dX10_most_93 : decode cX10_most 93 = .ok (.istore 4, 2) := by decide +kernel
theorem dX10_most_95 : decode cX10_most 95 = .ok (.iload 4, 2) := by decide +kernel
theorem dX10_most_97 : decode cX10_most 97 = .ok (.aload_n 0, 1) := by decide +kernel
theorem dX10_most_98 : decode cX10_most 98 = .ok (.invokevirtual 144, 3) := by decide +kernel
theorem dX10_most_101 : decode cX10_most 101 = .ok (.if_icmp .ge 33, 3) := by decide +kernel
theorem dX10_most_104 : decode cX10_most 104 = .ok (.aload_n 0, 1) := by decide +kernel
theorem dX10_most_105 : decode cX10_most 105 = .ok (.getfield 63, 3) := by decide +kernel
theorem dX10_most_108 : decode cX10_most 108 = .ok (.iload 4, 2) := by decide +kernel
theorem dX10_most_110 : decode cX10_most 110 = .ok (.laload, 1) := by decide +kernel
theorem dX10_most_111 : decode cX10_most 111 = .ok (.aload_n 0, 1) := by decide +kernel
theorem dX10_most_112 : decode cX10_most 112 = .ok (.getfield 63, 3) := by decide +kernel
theorem dX10_most_115 : decode cX10_most 115 = .ok (.iload_n 3, 1) := by decide +kernel
theorem dX10_most_116 : decode cX10_most 116 = .ok (.laload, 1) := by decide +kernel
theorem dX10_most_117 : decode cX10_most 117 = .ok (.lcmp, 1) := by decide +kernel
theorem dX10_most_118 : decode cX10_most 118 = .ok (.ifCond .le 8, 3) := by decide +kernel
theorem dX10_most_121 : decode cX10_most 121 = .ok (.iload 4, 2) := by decide +kernel
theorem dX10_most_123 : decode cX10_most 123 = .ok (.goto 4, 3) := by decide +kernel
theorem dX10_most_126 : decode cX10_most 126 = .ok (.iload_n 3, 1) := by decide +kernel
theorem dX10_most_127 : decode cX10_most 127 = .ok (.istore_n 3, 1) := by decide +kernel
theorem dX10_most_128 : decode cX10_most 128 = .ok (.iinc 4 1, 3) := by decide +kernel
theorem dX10_most_131 : decode cX10_most 131 = .ok (.goto (-36), 3) := by decide +kernel
theorem dX10_most_134 : decode cX10_most 134 = .ok (.aload_n 0, 1) := by decide +kernel
theorem dX10_most_135 : decode cX10_most 135 = .ok (.aload_n 0, 1) := by decide +kernel
theorem dX10_most_136 : decode cX10_most 136 = .ok (.getfield 63, 3) := by decide +kernel
theorem dX10_most_139 : decode cX10_most 139 = .ok (.iload_n 3, 1) := by decide +kernel
theorem dX10_most_140 : decode cX10_most 140 = .ok (.laload, 1) := by decide +kernel
theorem dX10_most_141 : decode cX10_most 141 = .ok (.aload_n 0, 1) := by decide +kernel
theorem dX10_most_142 : decode cX10_most 142 = .ok (.invokevirtual 232, 3) := by decide +kernel
theorem dX10_most_145 : decode cX10_most 145 = .ok (.invokestatic 244, 3) := by decide +kernel
theorem dX10_most_148 : decode cX10_most 148 = .ok (.iload_n 3, 1) := by decide +kernel
theorem dX10_most_149 : decode cX10_most 149 = .ok (.invokevirtual 248, 3) := by decide +kernel
theorem dX10_most_152 : decode cX10_most 152 = .ok (.ireturn, 1) := by decide +kernel
theorem dX10_keeps_0 : decode cX10_keeps 0 = .ok (.iload_n 1, 1) := by decide +kernel
theorem dX10_keeps_1 : decode cX10_keeps 1 = .ok (.invokestatic 95, 3) := by decide +kernel
theorem dX10_keeps_4 : decode cX10_keeps 4 = .ok (.ifCond .eq 22, 3) := by decide +kernel
theorem dX10_keeps_7 : decode cX10_keeps 7 = .ok (.iload_n 3, 1) := by decide +kernel
theorem dX10_keeps_8 : decode cX10_keeps 8 = .ok (.iconst 1, 1) := by decide +kernel
theorem dX10_keeps_9 : decode cX10_keeps 9 = .ok (.bipush 99, 2) := by decide +kernel
theorem dX10_keeps_11 : decode cX10_keeps 11 = .ok (.invokestatic 91, 3) := by decide +kernel
theorem dX10_keeps_14 : decode cX10_keeps 14 = .ok (.ifCond .eq 12, 3) := by decide +kernel
theorem dX10_keeps_17 : decode cX10_keeps 17 = .ok (.iload_n 2, 1) := by decide +kernel
theorem dX10_keeps_18 : decode cX10_keeps 18 = .ok (.iconst 1, 1) := by decide +kernel
theorem dX10_keeps_19 : decode cX10_keeps 19 = .ok (.iload_n 3, 1) := by decide +kernel
theorem dX10_keeps_20 : decode cX10_keeps 20 = .ok (.invokestatic 91, 3) := by decide +kernel
theorem dX10_keeps_23 : decode cX10_keeps 23 = .ok (.ifCond .ne 5, 3) := by decide +kernel
theorem dX10_keeps_26 : decode cX10_keeps 26 = .ok (.iconst (-1), 1) := by decide +kernel
theorem dX10_keeps_27 : decode cX10_keeps 27 = .ok (.ireturn, 1) := by decide +kernel
theorem dX10_keeps_28 : decode cX10_keeps 28 = .ok (.aload_n 0, 1) := by decide +kernel
theorem dX10_keeps_29 : decode cX10_keeps 29 = .ok (.iload_n 1, 1) := by decide +kernel
theorem dX10_keeps_30 : decode cX10_keeps 30 = .ok (.invokevirtual 238, 3) := by decide +kernel
theorem dX10_keeps_33 : decode cX10_keeps 33 = .ok (.istore 4, 2) := by decide +kernel
theorem dX10_keeps_35 : decode cX10_keeps 35 = .ok (.iload 4, 2) := by decide +kernel
theorem dX10_keeps_37 : decode cX10_keeps 37 = .ok (.ifCond .ge 6, 3) := by decide +kernel
theorem dX10_keeps_40 : decode cX10_keeps 40 = .ok (.iload 4, 2) := by decide +kernel
theorem dX10_keeps_42 : decode cX10_keeps 42 = .ok (.ireturn, 1) := by decide +kernel
theorem dX10_keeps_43 : decode cX10_keeps 43 = .ok (.iconst 0, 1) := by decide +kernel
theorem dX10_keeps_44 : decode cX10_keeps 44 = .ok (.istore 5, 2) := by decide +kernel
theorem dX10_keeps_46 : decode cX10_keeps 46 = .ok (.iconst 0, 1) := by decide +kernel
theorem dX10_keeps_47 : decode cX10_keeps 47 = .ok (.istore 6, 2) := by decide +kernel
theorem dX10_keeps_49 : decode cX10_keeps 49 = .ok (.ldc2_w 257, 3) := by decide +kernel
theorem dX10_keeps_52 : decode cX10_keeps 52 = .ok (.lstore 7, 2) := by decide +kernel
theorem dX10_keeps_54 : decode cX10_keeps 54 = .ok (.iconst 0, 1) := by decide +kernel
theorem dX10_keeps_55 : decode cX10_keeps 55 = .ok (.istore 9, 2) := by decide +kernel
theorem dX10_keeps_57 : decode cX10_keeps 57 = .ok (.iload 9, 2) := by decide +kernel
theorem dX10_keeps_59 : decode cX10_keeps 59 = .ok (.aload_n 0, 1) := by decide +kernel
theorem dX10_keeps_60 : decode cX10_keeps 60 = .ok (.invokevirtual 144, 3) := by decide +kernel
theorem dX10_keeps_63 : decode cX10_keeps 63 = .ok (.if_icmp .ge 102, 3) := by decide +kernel
theorem dX10_keeps_66 : decode cX10_keeps 66 = .ok (.aload_n 0, 1) := by decide +kernel
theorem dX10_keeps_67 : decode cX10_keeps 67 = .ok (.iconst 0, 1) := by decide +kernel
theorem dX10_keeps_68 : decode cX10_keeps 68 = .ok (.iload 9, 2) := by decide +kernel
theorem dX10_keeps_70 : decode cX10_keeps 70 = .ok (.invokevirtual 241, 3) := by decide +kernel
theorem dX10_keeps_73 : decode cX10_keeps 73 = .ok (.iload 5, 2) := by decide +kernel
theorem dX10_keeps_75 : decode cX10_keeps 75 = .ok (.aload_n 0, 1) := by decide +kernel
theorem dX10_keeps_76 : decode cX10_keeps 76 = .ok (.getfield 56, 3) := by decide +kernel
theorem dX10_keeps_79 : decode cX10_keeps 79 = .ok (.iload 9, 2) := by decide +kernel
theorem dX10_keeps_81 : decode cX10_keeps 81 = .ok (.laload, 1) := by decide +kernel
theorem dX10_keeps_82 : decode cX10_keeps 82 = .ok (.iload_n 3, 1) := by decide +kernel
theorem dX10_keeps_83 : decode cX10_keeps 83 = .ok (.i2l, 1) := by decide +kernel
theorem dX10_keeps_84 : decode cX10_keeps 84 = .ok (.lmul, 1) := by decide +kernel
theorem dX10_keeps_85 : decode cX10_keeps 85 = .ok (.aload_n 0, 1) := by decide +kernel
theorem dX10_keeps_86 : decode cX10_keeps 86 = .ok (.invokevirtual 232, 3) := by decide +kernel
theorem dX10_keeps_89 : decode cX10_keeps 89 = .ok (.invokestatic 244, 3) := by decide +kernel
theorem dX10_keeps_92 : decode cX10_keeps 92 = .ok (.iload_n 2, 1) := by decide +kernel
theorem dX10_keeps_93 : decode cX10_keeps 93 = .ok (.i2l, 1) := by decide +kernel
theorem dX10_keeps_94 : decode cX10_keeps 94 = .ok (.lmul, 1) := by decide +kernel
theorem dX10_keeps_95 : decode cX10_keeps 95 = .ok (.lcmp, 1) := by decide +kernel
theorem dX10_keeps_96 : decode cX10_keeps 96 = .ok (.ifCond .lt 10, 3) := by decide +kernel
theorem dX10_keeps_99 : decode cX10_keeps 99 = .ok (.iconst 1, 1) := by decide +kernel
theorem dX10_keeps_100 : decode cX10_keeps 100 = .ok (.iload 9, 2) := by decide +kernel
theorem dX10_keeps_102 : decode cX10_keeps 102 = .ok (.ishl, 1) := by decide +kernel
theorem dX10_keeps_103 : decode cX10_keeps 103 = .ok (.goto 4, 3) := by decide +kernel
theorem dX10_keeps_106 : decode cX10_keeps 106 = .ok (.iconst 0, 1) := by decide +kernel
theorem dX10_keeps_107 : decode cX10_keeps 107 = .ok (.ior, 1) := by decide +kernel
theorem dX10_keeps_108 : decode cX10_keeps 108 = .ok (.istore 5, 2) := by decide +kernel
theorem dX10_keeps_110 : decode cX10_keeps 110 = .ok (.aload_n 0, 1) := by decide +kernel
theorem dX10_keeps_111 : decode cX10_keeps 111 = .ok (.getfield 56, 3) := by decide +kernel
theorem dX10_keeps_114 : decode cX10_keeps 114 = .ok (.iload 9, 2) := by decide +kernel
theorem dX10_keeps_116 : decode cX10_keeps 116 = .ok (.laload, 1) := by decide +kernel
theorem dX10_keeps_117 : decode cX10_keeps 117 = .ok (.lload 7, 2) := by decide +kernel
theorem dX10_keeps_119 : decode cX10_keeps 119 = .ok (.lcmp, 1) := by decide +kernel
theorem dX10_keeps_120 : decode cX10_keeps 120 = .ok (.ifCond .ge 8, 3) := by decide +kernel
theorem dX10_keeps_123 : decode cX10_keeps 123 = .ok (.iload 9, 2) := by decide +kernel
theorem dX10_keeps_125 : decode cX10_keeps 125 = .ok (.goto 5, 3) := by decide +kernel
theorem dX10_keeps_128 : decode cX10_keeps 128 = .ok (.iload 6, 2) := by decide +kernel
theorem dX10_keeps_130 : decode cX10_keeps 130 = .ok (.istore 6, 2) := by decide +kernel
theorem dX10_keeps_132 : decode cX10_keeps 132 = .ok (.aload_n 0, 1) := by decide +kernel
theorem dX10_keeps_133 : decode cX10_keeps 133 = .ok (.getfield 56, 3) := by decide +kernel
theorem dX10_keeps_136 : decode cX10_keeps 136 = .ok (.iload 9, 2) := by decide +kernel
theorem dX10_keeps_138 : decode cX10_keeps 138 = .ok (.laload, 1) := by decide +kernel
theorem dX10_keeps_139 : decode cX10_keeps 139 = .ok (.lload 7, 2) := by decide +kernel
theorem dX10_keeps_141 : decode cX10_keeps 141 = .ok (.lcmp, 1) := by decide +kernel
theorem dX10_keeps_142 : decode cX10_keeps 142 = .ok (.ifCond .ge 13, 3) := by decide +kernel
theorem dX10_keeps_145 : decode cX10_keeps 145 = .ok (.aload_n 0, 1) := by decide +kernel
theorem dX10_keeps_146 : decode cX10_keeps 146 = .ok (.getfield 56, 3) := by decide +kernel
theorem dX10_keeps_149 : decode cX10_keeps 149 = .ok (.iload 9, 2) := by decide +kernel
theorem dX10_keeps_151 : decode cX10_keeps 151 = .ok (.laload, 1) := by decide +kernel
theorem dX10_keeps_152 : decode cX10_keeps 152 = .ok (.goto 5, 3) := by decide +kernel
theorem dX10_keeps_155 : decode cX10_keeps 155 = .ok (.lload 7, 2) := by decide +kernel
theorem dX10_keeps_157 : decode cX10_keeps 157 = .ok (.lstore 7, 2) := by decide +kernel
theorem dX10_keeps_159 : decode cX10_keeps 159 = .ok (.iinc 9 1, 3) := by decide +kernel
theorem dX10_keeps_162 : decode cX10_keeps 162 = .ok (.goto (-105), 3) := by decide +kernel
theorem dX10_keeps_165 : decode cX10_keeps 165 = .ok (.aload_n 0, 1) := by decide +kernel
theorem dX10_keeps_166 : decode cX10_keeps 166 = .ok (.iload 6, 2) := by decide +kernel
theorem dX10_keeps_168 : decode cX10_keeps 168 = .ok (.iload 5, 2) := by decide +kernel
theorem dX10_keeps_170 : decode cX10_keeps 170 = .ok (.invokevirtual 117, 3) := by decide +kernel
theorem dX10_keeps_173 : decode cX10_keeps 173 = .ok (.ireturn, 1) := by decide +kernel
theorem dX10_was_0 : decode cX10_was 0 = .ok (.iload_n 1, 1) := by decide +kernel
theorem dX10_was_1 : decode cX10_was 1 = .ok (.invokestatic 95, 3) := by decide +kernel
theorem dX10_was_4 : decode cX10_was 4 = .ok (.ifCond .eq 19, 3) := by decide +kernel
theorem dX10_was_7 : decode cX10_was 7 = .ok (.aload_n 0, 1) := by decide +kernel
theorem dX10_was_8 : decode cX10_was 8 = .ok (.iload_n 2, 1) := by decide +kernel
theorem dX10_was_9 : decode cX10_was 9 = .ok (.invokevirtual 151, 3) := by decide +kernel
theorem dX10_was_12 : decode cX10_was 12 = .ok (.ifCond .eq 11, 3) := by decide +kernel
theorem dX10_was_15 : decode cX10_was 15 = .ok (.aload_n 0, 1) := by decide +kernel
theorem dX10_was_16 : decode cX10_was 16 = .ok (.iload_n 3, 1) := by decide +kernel
theorem dX10_was_17 : decode cX10_was 17 = .ok (.invokevirtual 151, 3) := by decide +kernel
theorem dX10_was_20 : decode cX10_was 20 = .ok (.ifCond .ne 5, 3) := by decide +kernel
theorem dX10_was_23 : decode cX10_was 23 = .ok (.iconst (-1), 1) := by decide +kernel
theorem dX10_was_24 : decode cX10_was 24 = .ok (.ireturn, 1) := by decide +kernel
theorem dX10_was_25 : decode cX10_was 25 = .ok (.aload_n 0, 1) := by decide +kernel
theorem dX10_was_26 : decode cX10_was 26 = .ok (.iload_n 1, 1) := by decide +kernel
theorem dX10_was_27 : decode cX10_was 27 = .ok (.invokevirtual 238, 3) := by decide +kernel
theorem dX10_was_30 : decode cX10_was 30 = .ok (.istore 4, 2) := by decide +kernel
theorem dX10_was_32 : decode cX10_was 32 = .ok (.iload 4, 2) := by decide +kernel
theorem dX10_was_34 : decode cX10_was 34 = .ok (.ifCond .ge 6, 3) := by decide +kernel
theorem dX10_was_37 : decode cX10_was 37 = .ok (.iload 4, 2) := by decide +kernel
theorem dX10_was_39 : decode cX10_was 39 = .ok (.ireturn, 1) := by decide +kernel
theorem dX10_was_40 : decode cX10_was 40 = .ok (.lconst 0, 1) := by decide +kernel
theorem dX10_was_41 : decode cX10_was 41 = .ok (.lstore 5, 2) := by decide +kernel
theorem dX10_was_43 : decode cX10_was 43 = .ok (.lconst 0, 1) := by decide +kernel
theorem dX10_was_44 : decode cX10_was 44 = .ok (.lstore 7, 2) := by decide +kernel
theorem dX10_was_46 : decode cX10_was 46 = .ok (.iconst 0, 1) := by decide +kernel
theorem dX10_was_47 : decode cX10_was 47 = .ok (.istore 9, 2) := by decide +kernel
theorem dX10_was_49 : decode cX10_was 49 = .ok (.iload 9, 2) := by decide +kernel
theorem dX10_was_51 : decode cX10_was 51 = .ok (.aload_n 0, 1) := by decide +kernel
theorem dX10_was_52 : decode cX10_was 52 = .ok (.invokevirtual 144, 3) := by decide +kernel
theorem dX10_was_55 : decode cX10_was 55 = .ok (.if_icmp .ge 46, 3) := by decide +kernel
theorem dX10_was_58 : decode cX10_was 58 = .ok (.aload_n 0, 1) := by decide +kernel
theorem dX10_was_59 : decode cX10_was 59 = .ok (.iconst 0, 1) := by decide +kernel
theorem dX10_was_60 : decode cX10_was 60 = .ok (.iload 9, 2) := by decide +kernel
theorem dX10_was_62 : decode cX10_was 62 = .ok (.invokevirtual 241, 3) := by decide +kernel
theorem dX10_was_65 : decode cX10_was 65 = .ok (.lload 5, 2) := by decide +kernel
theorem dX10_was_67 : decode cX10_was 67 = .ok (.aload_n 0, 1) := by decide +kernel
theorem dX10_was_68 : decode cX10_was 68 = .ok (.getfield 56, 3) := by decide +kernel
theorem dX10_was_71 : decode cX10_was 71 = .ok (.iload_n 2, 1) := by decide +kernel
theorem dX10_was_72 : decode cX10_was 72 = .ok (.laload, 1) := by decide +kernel
theorem dX10_was_73 : decode cX10_was 73 = .ok (.ladd, 1) := by decide +kernel
theorem dX10_was_74 : decode cX10_was 74 = .ok (.lstore 5, 2) := by decide +kernel
theorem dX10_was_76 : decode cX10_was 76 = .ok (.iload 9, 2) := by decide +kernel
theorem dX10_was_78 : decode cX10_was 78 = .ok (.iload_n 3, 1) := by decide +kernel
theorem dX10_was_79 : decode cX10_was 79 = .ok (.if_icmp .ne 12, 3) := by decide +kernel
theorem dX10_was_82 : decode cX10_was 82 = .ok (.aload_n 0, 1) := by decide +kernel
theorem dX10_was_83 : decode cX10_was 83 = .ok (.getfield 56, 3) := by decide +kernel
theorem dX10_was_86 : decode cX10_was 86 = .ok (.iload_n 2, 1) := by decide +kernel
theorem dX10_was_87 : decode cX10_was 87 = .ok (.laload, 1) := by decide +kernel
theorem dX10_was_88 : decode cX10_was 88 = .ok (.goto 5, 3) := by decide +kernel
theorem dX10_was_91 : decode cX10_was 91 = .ok (.lload 7, 2) := by decide +kernel
theorem dX10_was_93 : decode cX10_was 93 = .ok (.lstore 7, 2) := by decide +kernel
theorem dX10_was_95 : decode cX10_was 95 = .ok (.iinc 9 1, 3) := by decide +kernel
theorem dX10_was_98 : decode cX10_was 98 = .ok (.goto (-49), 3) := by decide +kernel
theorem dX10_was_101 : decode cX10_was 101 = .ok (.lload 5, 2) := by decide +kernel
theorem dX10_was_103 : decode cX10_was 103 = .ok (.lconst 0, 1) := by decide +kernel
theorem dX10_was_104 : decode cX10_was 104 = .ok (.lcmp, 1) := by decide +kernel
theorem dX10_was_105 : decode cX10_was 105 = .ok (.ifCond .ne 11, 3) := by decide +kernel
theorem dX10_was_108 : decode cX10_was 108 = .ok (.aload_n 0, 1) := by decide +kernel
theorem dX10_was_109 : decode cX10_was 109 = .ok (.iconst 4, 1) := by decide +kernel
theorem dX10_was_110 : decode cX10_was 110 = .ok (.invokevirtual 99, 3) := by decide +kernel
theorem dX10_was_113 : decode cX10_was 113 = .ok (.goto 12, 3) := by decide +kernel
theorem dX10_was_116 : decode cX10_was 116 = .ok (.aload_n 0, 1) := by decide +kernel
theorem dX10_was_117 : decode cX10_was 117 = .ok (.lload 7, 2) := by decide +kernel
theorem dX10_was_119 : decode cX10_was 119 = .ok (.lload 5, 2) := by decide +kernel
theorem dX10_was_121 : decode cX10_was 121 = .ok (.iconst 1, 1) := by decide +kernel
theorem dX10_was_122 : decode cX10_was 122 = .ok (.invokevirtual 248, 3) := by decide +kernel
theorem dX10_was_125 : decode cX10_was 125 = .ok (.ireturn, 1) := by decide +kernel
theorem dX10_off_0 : decode cX10_off 0 = .ok (.iload_n 1, 1) := by decide +kernel
theorem dX10_off_1 : decode cX10_off 1 = .ok (.invokestatic 95, 3) := by decide +kernel
theorem dX10_off_4 : decode cX10_off 4 = .ok (.ifCond .eq 34, 3) := by decide +kernel
theorem dX10_off_7 : decode cX10_off 7 = .ok (.aload_n 0, 1) := by decide +kernel
theorem dX10_off_8 : decode cX10_off 8 = .ok (.iload_n 2, 1) := by decide +kernel
theorem dX10_off_9 : decode cX10_off 9 = .ok (.invokevirtual 151, 3) := by decide +kernel
theorem dX10_off_12 : decode cX10_off 12 = .ok (.ifCond .eq 26, 3) := by decide +kernel
theorem dX10_off_15 : decode cX10_off 15 = .ok (.aload_n 0, 1) := by decide +kernel
theorem dX10_off_16 : decode cX10_off 16 = .ok (.iload_n 3, 1) := by decide +kernel
theorem dX10_off_17 : decode cX10_off 17 = .ok (.invokevirtual 151, 3) := by decide +kernel
theorem dX10_off_20 : decode cX10_off 20 = .ok (.ifCond .eq 18, 3) := by decide +kernel
theorem dX10_off_23 : decode cX10_off 23 = .ok (.iload_n 2, 1) := by decide +kernel
theorem dX10_off_24 : decode cX10_off 24 = .ok (.iload_n 3, 1) := by decide +kernel
theorem dX10_off_25 : decode cX10_off 25 = .ok (.if_icmp .eq 13, 3) := by decide +kernel
theorem dX10_off_28 : decode cX10_off 28 = .ok (.iload 4, 2) := by decide +kernel
theorem dX10_off_30 : decode cX10_off 30 = .ok (.iconst 0, 1) := by decide +kernel
theorem dX10_off_31 : decode cX10_off 31 = .ok (.iconst 3, 1) := by decide +kernel
theorem dX10_off_32 : decode cX10_off 32 = .ok (.invokestatic 91, 3) := by decide +kernel
theorem dX10_off_35 : decode cX10_off 35 = .ok (.ifCond .ne 5, 3) := by decide +kernel
theorem dX10_off_38 : decode cX10_off 38 = .ok (.iconst (-1), 1) := by decide +kernel
theorem dX10_off_39 : decode cX10_off 39 = .ok (.ireturn, 1) := by decide +kernel
theorem dX10_off_40 : decode cX10_off 40 = .ok (.aload_n 0, 1) := by decide +kernel
theorem dX10_off_41 : decode cX10_off 41 = .ok (.iload_n 1, 1) := by decide +kernel
theorem dX10_off_42 : decode cX10_off 42 = .ok (.invokevirtual 238, 3) := by decide +kernel
theorem dX10_off_45 : decode cX10_off 45 = .ok (.istore 5, 2) := by decide +kernel
theorem dX10_off_47 : decode cX10_off 47 = .ok (.iload 5, 2) := by decide +kernel
theorem dX10_off_49 : decode cX10_off 49 = .ok (.ifCond .ge 6, 3) := by decide +kernel
theorem dX10_off_52 : decode cX10_off 52 = .ok (.iload 5, 2) := by decide +kernel
theorem dX10_off_54 : decode cX10_off 54 = .ok (.ireturn, 1) := by decide +kernel
theorem dX10_off_55 : decode cX10_off 55 = .ok (.iload 4, 2) := by decide +kernel
theorem dX10_off_57 : decode cX10_off 57 = .ok (.aload_n 0, 1) := by decide +kernel
theorem dX10_off_58 : decode cX10_off 58 = .ok (.invokevirtual 232, 3) := by decide +kernel
theorem dX10_off_61 : decode cX10_off 61 = .ok (.if_icmp .lt 5, 3) := by decide +kernel
theorem dX10_off_64 : decode cX10_off 64 = .ok (.iconst (-1), 1) := by decide +kernel
theorem dX10_off_65 : decode cX10_off 65 = .ok (.ireturn, 1) := by decide +kernel
theorem dX10_off_66 : decode cX10_off 66 = .ok (.aload_n 0, 1) := by decide +kernel
theorem dX10_off_67 : decode cX10_off 67 = .ok (.iconst 0, 1) := by decide +kernel
theorem dX10_off_68 : decode cX10_off 68 = .ok (.iload_n 2, 1) := by decide +kernel
theorem dX10_off_69 : decode cX10_off 69 = .ok (.invokevirtual 241, 3) := by decide +kernel
theorem dX10_off_72 : decode cX10_off 72 = .ok (.aload_n 0, 1) := by decide +kernel
theorem dX10_off_73 : decode cX10_off 73 = .ok (.getfield 56, 3) := by decide +kernel
theorem dX10_off_76 : decode cX10_off 76 = .ok (.iload_n 3, 1) := by decide +kernel
theorem dX10_off_77 : decode cX10_off 77 = .ok (.laload, 1) := by decide +kernel
theorem dX10_off_78 : decode cX10_off 78 = .ok (.lstore 6, 2) := by decide +kernel
theorem dX10_off_80 : decode cX10_off 80 = .ok (.lload 6, 2) := by decide +kernel
theorem dX10_off_82 : decode cX10_off 82 = .ok (.lconst 0, 1) := by decide +kernel
theorem dX10_off_83 : decode cX10_off 83 = .ok (.lcmp, 1) := by decide +kernel
theorem dX10_off_84 : decode cX10_off 84 = .ok (.ifCond .ne 9, 3) := by decide +kernel
theorem dX10_off_87 : decode cX10_off 87 = .ok (.aload_n 0, 1) := by decide +kernel
theorem dX10_off_88 : decode cX10_off 88 = .ok (.iconst 4, 1) := by decide +kernel
theorem dX10_off_89 : decode cX10_off 89 = .ok (.invokevirtual 99, 3) := by decide +kernel
theorem dX10_off_92 : decode cX10_off 92 = .ok (.ireturn, 1) := by decide +kernel
theorem dX10_off_93 : decode cX10_off 93 = .ok (.iconst 0, 1) := by decide +kernel
theorem dX10_off_94 : decode cX10_off 94 = .ok (.istore 8, 2) := by decide +kernel
theorem dX10_off_96 : decode cX10_off 96 = .ok (.iload 8, 2) := by decide +kernel
theorem dX10_off_98 : decode cX10_off 98 = .ok (.aload_n 0, 1) := by decide +kernel
theorem dX10_off_99 : decode cX10_off 99 = .ok (.invokevirtual 144, 3) := by decide +kernel
theorem dX10_off_102 : decode cX10_off 102 = .ok (.if_icmp .ge 27, 3) := by decide +kernel
theorem dX10_off_105 : decode cX10_off 105 = .ok (.aload_n 0, 1) := by decide +kernel
theorem dX10_off_106 : decode cX10_off 106 = .ok (.getfield 56, 3) := by decide +kernel
theorem dX10_off_109 : decode cX10_off 109 = .ok (.iload 8, 2) := by decide +kernel
theorem dX10_off_111 : decode cX10_off 111 = .ok (.iload 8, 2) := by decide +kernel
theorem dX10_off_113 : decode cX10_off 113 = .ok (.iload_n 2, 1) := by decide +kernel
theorem dX10_off_114 : decode cX10_off 114 = .ok (.if_icmp .ne 7, 3) := by decide +kernel
theorem dX10_off_117 : decode cX10_off 117 = .ok (.lconst 1, 1) := by decide +kernel
theorem dX10_off_118 : decode cX10_off 118 = .ok (.goto 4, 3) := by decide +kernel
theorem dX10_off_121 : decode cX10_off 121 = .ok (.lconst 0, 1) := by decide +kernel
theorem dX10_off_122 : decode cX10_off 122 = .ok (.lastore, 1) := by decide +kernel
theorem dX10_off_123 : decode cX10_off 123 = .ok (.iinc 8 1, 3) := by decide +kernel
theorem dX10_off_126 : decode cX10_off 126 = .ok (.goto (-30), 3) := by decide +kernel
theorem dX10_off_129 : decode cX10_off 129 = .ok (.iconst 0, 1) := by decide +kernel
theorem dX10_off_130 : decode cX10_off 130 = .ok (.istore 8, 2) := by decide +kernel
theorem dX10_off_132 : decode cX10_off 132 = .ok (.iload 8, 2) := by decide +kernel
theorem dX10_off_134 : decode cX10_off 134 = .ok (.aload_n 0, 1) := by decide +kernel
theorem dX10_off_135 : decode cX10_off 135 = .ok (.invokevirtual 232, 3) := by decide +kernel
theorem dX10_off_138 : decode cX10_off 138 = .ok (.if_icmp .ge 85, 3) := by decide +kernel
theorem dX10_off_141 : decode cX10_off 141 = .ok (.aload_n 0, 1) := by decide +kernel
theorem dX10_off_142 : decode cX10_off 142 = .ok (.iconst 0, 1) := by decide +kernel
theorem dX10_off_143 : decode cX10_off 143 = .ok (.iload 8, 2) := by decide +kernel
theorem dX10_off_145 : decode cX10_off 145 = .ok (.invokevirtual 235, 3) := by decide +kernel
theorem dX10_off_148 : decode cX10_off 148 = .ok (.iconst 0, 1) := by decide +kernel
theorem dX10_off_149 : decode cX10_off 149 = .ok (.istore 9, 2) := by decide +kernel
theorem dX10_off_151 : decode cX10_off 151 = .ok (.iload 9, 2) := by decide +kernel
theorem dX10_off_153 : decode cX10_off 153 = .ok (.aload_n 0, 1) := by decide +kernel
theorem dX10_off_154 : decode cX10_off 154 = .ok (.invokevirtual 144, 3) := by decide +kernel
theorem dX10_off_157 : decode cX10_off 157 = .ok (.if_icmp .ge 60, 3) := by decide +kernel
theorem dX10_off_160 : decode cX10_off 160 = .ok (.iload 8, 2) := by decide +kernel
theorem dX10_off_162 : decode cX10_off 162 = .ok (.iload 4, 2) := by decide +kernel
theorem dX10_off_164 : decode cX10_off 164 = .ok (.if_icmp .gt 53, 3) := by decide +kernel
theorem dX10_off_167 : decode cX10_off 167 = .ok (.aload_n 0, 1) := by decide +kernel
theorem dX10_off_168 : decode cX10_off 168 = .ok (.getfield 56, 3) := by decide +kernel
theorem dX10_off_171 : decode cX10_off 171 = .ok (.iload 9, 2) := by decide +kernel
theorem dX10_off_173 : decode cX10_off 173 = .ok (.iload 9, 2) := by decide +kernel
theorem dX10_off_175 : decode cX10_off 175 = .ok (.iload_n 2, 1) := by decide +kernel
theorem dX10_off_176 : decode cX10_off 176 = .ok (.if_icmp .ne 7, 3) := by decide +kernel
theorem dX10_off_179 : decode cX10_off 179 = .ok (.iconst 1, 1) := by decide +kernel
theorem dX10_off_180 : decode cX10_off 180 = .ok (.goto 4, 3) := by decide +kernel
theorem dX10_off_183 : decode cX10_off 183 = .ok (.iconst 0, 1) := by decide +kernel
theorem dX10_off_184 : decode cX10_off 184 = .ok (.iload 8, 2) := by decide +kernel
theorem dX10_off_186 : decode cX10_off 186 = .ok (.iload 4, 2) := by decide +kernel
theorem dX10_off_188 : decode cX10_off 188 = .ok (.if_icmp .ge 7, 3) := by decide +kernel
theorem dX10_off_191 : decode cX10_off 191 = .ok (.iconst 1, 1) := by decide +kernel
theorem dX10_off_192 : decode cX10_off 192 = .ok (.goto 4, 3) := by decide +kernel
theorem dX10_off_195 : decode cX10_off 195 = .ok (.iconst 0, 1) := by decide +kernel
theorem dX10_off_196 : decode cX10_off 196 = .ok (.if_icmp .ne 13, 3) := by decide +kernel
theorem dX10_off_199 : decode cX10_off 199 = .ok (.aload_n 0, 1) := by decide +kernel
theorem dX10_off_200 : decode cX10_off 200 = .ok (.getfield 56, 3) := by decide +kernel
theorem dX10_off_203 : decode cX10_off 203 = .ok (.iload 9, 2) := by decide +kernel
theorem dX10_off_205 : decode cX10_off 205 = .ok (.laload, 1) := by decide +kernel
theorem dX10_off_206 : decode cX10_off 206 = .ok (.goto 4, 3) := by decide +kernel
theorem dX10_off_209 : decode cX10_off 209 = .ok (.lconst 0, 1) := by decide +kernel
theorem dX10_off_210 : decode cX10_off 210 = .ok (.lastore, 1) := by decide +kernel
theorem dX10_off_211 : decode cX10_off 211 = .ok (.iinc 9 1, 3) := by decide +kernel
theorem dX10_off_214 : decode cX10_off 214 = .ok (.goto (-63), 3) := by decide +kernel
theorem dX10_off_217 : decode cX10_off 217 = .ok (.iinc 8 1, 3) := by decide +kernel
theorem dX10_off_220 : decode cX10_off 220 = .ok (.goto (-88), 3) := by decide +kernel
theorem dX10_off_223 : decode cX10_off 223 = .ok (.aload_n 0, 1) := by decide +kernel
theorem dX10_off_224 : decode cX10_off 224 = .ok (.aload_n 0, 1) := by decide +kernel
theorem dX10_off_225 : decode cX10_off 225 = .ok (.getfield 56, 3) := by decide +kernel
theorem dX10_off_228 : decode cX10_off 228 = .ok (.iload_n 3, 1) := by decide +kernel
theorem dX10_off_229 : decode cX10_off 229 = .ok (.laload, 1) := by decide +kernel
theorem dX10_off_230 : decode cX10_off 230 = .ok (.lload 6, 2) := by decide +kernel
theorem dX10_off_232 : decode cX10_off 232 = .ok (.iconst 1, 1) := by decide +kernel
theorem dX10_off_233 : decode cX10_off 233 = .ok (.invokevirtual 248, 3) := by decide +kernel
theorem dX10_off_236 : decode cX10_off 236 = .ok (.ireturn, 1) := by decide +kernel
theorem dX10_keptOf_0 : decode cX10_keptOf 0 = .ok (.lconst 0, 1) := by decide +kernel
theorem dX10_keptOf_1 : decode cX10_keptOf 1 = .ok (.lstore_n 2, 1) := by decide +kernel
theorem dX10_keptOf_2 : decode cX10_keptOf 2 = .ok (.ldc2_w 259, 3) := by decide +kernel
theorem dX10_keptOf_5 : decode cX10_keptOf 5 = .ok (.lstore 4, 2) := by decide +kernel
theorem dX10_keptOf_7 : decode cX10_keptOf 7 = .ok (.iconst 0, 1) := by decide +kernel
theorem dX10_keptOf_8 : decode cX10_keptOf 8 = .ok (.istore 6, 2) := by decide +kernel
theorem dX10_keptOf_10 : decode cX10_keptOf 10 = .ok (.iload 6, 2) := by decide +kernel
theorem dX10_keptOf_12 : decode cX10_keptOf 12 = .ok (.aload_n 0, 1) := by decide +kernel
theorem dX10_keptOf_13 : decode cX10_keptOf 13 = .ok (.getfield 227, 3) := by decide +kernel
theorem dX10_keptOf_16 : decode cX10_keptOf 16 = .ok (.if_icmp .ge 89, 3) := by decide +kernel
theorem dX10_keptOf_19 : decode cX10_keptOf 19 = .ok (.aload_n 0, 1) := by decide +kernel
theorem dX10_keptOf_20 : decode cX10_keptOf 20 = .ok (.iload_n 1, 1) := by decide +kernel
theorem dX10_keptOf_21 : decode cX10_keptOf 21 = .ok (.iload 6, 2) := by decide +kernel
theorem dX10_keptOf_23 : decode cX10_keptOf 23 = .ok (.invokevirtual 113, 3) := by decide +kernel
theorem dX10_keptOf_26 : decode cX10_keptOf 26 = .ok (.istore 7, 2) := by decide +kernel
theorem dX10_keptOf_28 : decode cX10_keptOf 28 = .ok (.aload_n 0, 1) := by decide +kernel
theorem dX10_keptOf_29 : decode cX10_keptOf 29 = .ok (.iload 6, 2) := by decide +kernel
theorem dX10_keptOf_31 : decode cX10_keptOf 31 = .ok (.iload 7, 2) := by decide +kernel
theorem dX10_keptOf_33 : decode cX10_keptOf 33 = .ok (.invokevirtual 241, 3) := by decide +kernel
theorem dX10_keptOf_36 : decode cX10_keptOf 36 = .ok (.lload_n 2, 1) := by decide +kernel
theorem dX10_keptOf_37 : decode cX10_keptOf 37 = .ok (.aload_n 0, 1) := by decide +kernel
theorem dX10_keptOf_38 : decode cX10_keptOf 38 = .ok (.getfield 56, 3) := by decide +kernel
theorem dX10_keptOf_41 : decode cX10_keptOf 41 = .ok (.iload 7, 2) := by decide +kernel
theorem dX10_keptOf_43 : decode cX10_keptOf 43 = .ok (.laload, 1) := by decide +kernel
theorem dX10_keptOf_44 : decode cX10_keptOf 44 = .ok (.ladd, 1) := by decide +kernel
theorem dX10_keptOf_45 : decode cX10_keptOf 45 = .ok (.lstore_n 2, 1) := by decide +kernel
theorem dX10_keptOf_46 : decode cX10_keptOf 46 = .ok (.aload_n 0, 1) := by decide +kernel
theorem dX10_keptOf_47 : decode cX10_keptOf 47 = .ok (.aload_n 0, 1) := by decide +kernel
theorem dX10_keptOf_48 : decode cX10_keptOf 48 = .ok (.getfield 56, 3) := by decide +kernel
theorem dX10_keptOf_51 : decode cX10_keptOf 51 = .ok (.iload 7, 2) := by decide +kernel
theorem dX10_keptOf_53 : decode cX10_keptOf 53 = .ok (.laload, 1) := by decide +kernel
theorem dX10_keptOf_54 : decode cX10_keptOf 54 = .ok (.lload 4, 2) := by decide +kernel
theorem dX10_keptOf_56 : decode cX10_keptOf 56 = .ok (.lcmp, 1) := by decide +kernel
theorem dX10_keptOf_57 : decode cX10_keptOf 57 = .ok (.ifCond .le 8, 3) := by decide +kernel
theorem dX10_keptOf_60 : decode cX10_keptOf 60 = .ok (.iload 6, 2) := by decide +kernel
theorem dX10_keptOf_62 : decode cX10_keptOf 62 = .ok (.goto 7, 3) := by decide +kernel
theorem dX10_keptOf_65 : decode cX10_keptOf 65 = .ok (.aload_n 0, 1) := by decide +kernel
theorem dX10_keptOf_66 : decode cX10_keptOf 66 = .ok (.getfield 261, 3) := by decide +kernel
theorem dX10_keptOf_69 : decode cX10_keptOf 69 = .ok (.putfield 261, 3) := by decide +kernel
theorem dX10_keptOf_72 : decode cX10_keptOf 72 = .ok (.aload_n 0, 1) := by decide +kernel
theorem dX10_keptOf_73 : decode cX10_keptOf 73 = .ok (.getfield 56, 3) := by decide +kernel
theorem dX10_keptOf_76 : decode cX10_keptOf 76 = .ok (.iload 7, 2) := by decide +kernel
theorem dX10_keptOf_78 : decode cX10_keptOf 78 = .ok (.laload, 1) := by decide +kernel
theorem dX10_keptOf_79 : decode cX10_keptOf 79 = .ok (.lload 4, 2) := by decide +kernel
theorem dX10_keptOf_81 : decode cX10_keptOf 81 = .ok (.lcmp, 1) := by decide +kernel
theorem dX10_keptOf_82 : decode cX10_keptOf 82 = .ok (.ifCond .le 13, 3) := by decide +kernel
theorem dX10_keptOf_85 : decode cX10_keptOf 85 = .ok (.aload_n 0, 1) := by decide +kernel
theorem dX10_keptOf_86 : decode cX10_keptOf 86 = .ok (.getfield 56, 3) := by decide +kernel
theorem dX10_keptOf_89 : decode cX10_keptOf 89 = .ok (.iload 7, 2) := by decide +kernel
theorem dX10_keptOf_91 : decode cX10_keptOf 91 = .ok (.laload, 1) := by decide +kernel
theorem dX10_keptOf_92 : decode cX10_keptOf 92 = .ok (.goto 5, 3) := by decide +kernel
theorem dX10_keptOf_95 : decode cX10_keptOf 95 = .ok (.lload 4, 2) := by decide +kernel
theorem dX10_keptOf_97 : decode cX10_keptOf 97 = .ok (.lstore 4, 2) := by decide +kernel
theorem dX10_keptOf_99 : decode cX10_keptOf 99 = .ok (.iinc 6 1, 3) := by decide +kernel
theorem dX10_keptOf_102 : decode cX10_keptOf 102 = .ok (.goto (-92), 3) := by decide +kernel
theorem dX10_keptOf_105 : decode cX10_keptOf 105 = .ok (.lload_n 2, 1) := by decide +kernel
theorem dX10_keptOf_106 : decode cX10_keptOf 106 = .ok (.lreturn, 1) := by decide +kernel
theorem dX10_askedPads_0 : decode cX10_askedPads 0 = .ok (.aload_n 0, 1) := by decide +kernel
theorem dX10_askedPads_1 : decode cX10_askedPads 1 = .ok (.getfield 17, 3) := by decide +kernel
theorem dX10_askedPads_4 : decode cX10_askedPads 4 = .ok (.iload_n 1, 1) := by decide +kernel
theorem dX10_askedPads_5 : decode cX10_askedPads 5 = .ok (.iaload, 1) := by decide +kernel
theorem dX10_askedPads_6 : decode cX10_askedPads 6 = .ok (.ifCond .lt 12, 3) := by decide +kernel
theorem dX10_askedPads_9 : decode cX10_askedPads 9 = .ok (.aload_n 0, 1) := by decide +kernel
theorem dX10_askedPads_10 : decode cX10_askedPads 10 = .ok (.getfield 17, 3) := by decide +kernel
theorem dX10_askedPads_13 : decode cX10_askedPads 13 = .ok (.iload_n 2, 1) := by decide +kernel
theorem dX10_askedPads_14 : decode cX10_askedPads 14 = .ok (.iaload, 1) := by decide +kernel
theorem dX10_askedPads_15 : decode cX10_askedPads 15 = .ok (.ifCond .ge 9, 3) := by decide +kernel
theorem dX10_askedPads_18 : decode cX10_askedPads 18 = .ok (.aload_n 0, 1) := by decide +kernel
theorem dX10_askedPads_19 : decode cX10_askedPads 19 = .ok (.iconst 1, 1) := by decide +kernel
theorem dX10_askedPads_20 : decode cX10_askedPads 20 = .ok (.invokevirtual 99, 3) := by decide +kernel
theorem dX10_askedPads_23 : decode cX10_askedPads 23 = .ok (.ireturn, 1) := by decide +kernel
theorem dX10_askedPads_24 : decode cX10_askedPads 24 = .ok (.aload_n 0, 1) := by decide +kernel
theorem dX10_askedPads_25 : decode cX10_askedPads 25 = .ok (.getfield 17, 3) := by decide +kernel
theorem dX10_askedPads_28 : decode cX10_askedPads 28 = .ok (.iload_n 1, 1) := by decide +kernel
theorem dX10_askedPads_29 : decode cX10_askedPads 29 = .ok (.iaload, 1) := by decide +kernel
theorem dX10_askedPads_30 : decode cX10_askedPads 30 = .ok (.iconst 2, 1) := by decide +kernel
theorem dX10_askedPads_31 : decode cX10_askedPads 31 = .ok (.bipush 8, 2) := by decide +kernel
theorem dX10_askedPads_33 : decode cX10_askedPads 33 = .ok (.invokestatic 91, 3) := by decide +kernel
theorem dX10_askedPads_36 : decode cX10_askedPads 36 = .ok (.ifCond .eq 30, 3) := by decide +kernel
theorem dX10_askedPads_39 : decode cX10_askedPads 39 = .ok (.aload_n 0, 1) := by decide +kernel
theorem dX10_askedPads_40 : decode cX10_askedPads 40 = .ok (.getfield 17, 3) := by decide +kernel
theorem dX10_askedPads_43 : decode cX10_askedPads 43 = .ok (.iload_n 1, 1) := by decide +kernel
theorem dX10_askedPads_44 : decode cX10_askedPads 44 = .ok (.iaload, 1) := by decide +kernel
theorem dX10_askedPads_45 : decode cX10_askedPads 45 = .ok (.iconst 2, 1) := by decide +kernel
theorem dX10_askedPads_46 : decode cX10_askedPads 46 = .ok (.irem, 1) := by decide +kernel
theorem dX10_askedPads_47 : decode cX10_askedPads 47 = .ok (.iconst 1, 1) := by decide +kernel
theorem dX10_askedPads_48 : decode cX10_askedPads 48 = .ok (.if_icmp .eq 18, 3) := by decide +kernel
theorem dX10_askedPads_51 : decode cX10_askedPads 51 = .ok (.aload_n 0, 1) := by decide +kernel
theorem dX10_askedPads_52 : decode cX10_askedPads 52 = .ok (.getfield 17, 3) := by decide +kernel
theorem dX10_askedPads_55 : decode cX10_askedPads 55 = .ok (.iload_n 2, 1) := by decide +kernel
theorem dX10_askedPads_56 : decode cX10_askedPads 56 = .ok (.iaload, 1) := by decide +kernel
theorem dX10_askedPads_57 : decode cX10_askedPads 57 = .ok (.aload_n 0, 1) := by decide +kernel
theorem dX10_askedPads_58 : decode cX10_askedPads 58 = .ok (.getfield 17, 3) := by decide +kernel
theorem dX10_askedPads_61 : decode cX10_askedPads 61 = .ok (.iload_n 1, 1) := by decide +kernel
theorem dX10_askedPads_62 : decode cX10_askedPads 62 = .ok (.iaload, 1) := by decide +kernel
theorem dX10_askedPads_63 : decode cX10_askedPads 63 = .ok (.if_icmp .eq 9, 3) := by decide +kernel
theorem dX10_askedPads_66 : decode cX10_askedPads 66 = .ok (.aload_n 0, 1) := by decide +kernel
theorem dX10_askedPads_67 : decode cX10_askedPads 67 = .ok (.iconst 5, 1) := by decide +kernel
theorem dX10_askedPads_68 : decode cX10_askedPads 68 = .ok (.invokevirtual 99, 3) := by decide +kernel
theorem dX10_askedPads_71 : decode cX10_askedPads 71 = .ok (.ireturn, 1) := by decide +kernel
theorem dX10_askedPads_72 : decode cX10_askedPads 72 = .ok (.aload_n 0, 1) := by decide +kernel
theorem dX10_askedPads_73 : decode cX10_askedPads 73 = .ok (.iload_n 1, 1) := by decide +kernel
theorem dX10_askedPads_74 : decode cX10_askedPads 74 = .ok (.invokevirtual 224, 3) := by decide +kernel
theorem dX10_askedPads_77 : decode cX10_askedPads 77 = .ok (.istore_n 3, 1) := by decide +kernel
theorem dX10_askedPads_78 : decode cX10_askedPads 78 = .ok (.iconst 0, 1) := by decide +kernel
theorem dX10_askedPads_79 : decode cX10_askedPads 79 = .ok (.istore 4, 2) := by decide +kernel
theorem dX10_askedPads_81 : decode cX10_askedPads 81 = .ok (.iload 4, 2) := by decide +kernel
theorem dX10_askedPads_83 : decode cX10_askedPads 83 = .ok (.aload_n 0, 1) := by decide +kernel
theorem dX10_askedPads_84 : decode cX10_askedPads 84 = .ok (.getfield 17, 3) := by decide +kernel
theorem dX10_askedPads_87 : decode cX10_askedPads 87 = .ok (.iload_n 2, 1) := by decide +kernel
theorem dX10_askedPads_88 : decode cX10_askedPads 88 = .ok (.iaload, 1) := by decide +kernel
theorem dX10_askedPads_89 : decode cX10_askedPads 89 = .ok (.if_icmp .ge 37, 3) := by decide +kernel
theorem dX10_askedPads_92 : decode cX10_askedPads 92 = .ok (.iload_n 3, 1) := by decide +kernel
theorem dX10_askedPads_93 : decode cX10_askedPads 93 = .ok (.ifCond .ne 33, 3) := by decide +kernel
theorem dX10_askedPads_96 : decode cX10_askedPads 96 = .ok (.aload_n 0, 1) := by decide +kernel
theorem dX10_askedPads_97 : decode cX10_askedPads 97 = .ok (.aload_n 0, 1) := by decide +kernel
theorem dX10_askedPads_98 : decode cX10_askedPads 98 = .ok (.iload_n 2, 1) := by decide +kernel
theorem dX10_askedPads_99 : decode cX10_askedPads 99 = .ok (.iload 4, 2) := by decide +kernel
theorem dX10_askedPads_101 : decode cX10_askedPads 101 = .ok (.invokevirtual 113, 3) := by decide +kernel
theorem dX10_askedPads_104 : decode cX10_askedPads 104 = .ok (.invokevirtual 151, 3) := by decide +kernel
theorem dX10_askedPads_107 : decode cX10_askedPads 107 = .ok (.ifCond .eq 7, 3) := by decide +kernel
theorem dX10_askedPads_110 : decode cX10_askedPads 110 = .ok (.iconst 0, 1) := by decide +kernel
theorem dX10_askedPads_111 : decode cX10_askedPads 111 = .ok (.goto 8, 3) := by decide +kernel
theorem dX10_askedPads_114 : decode cX10_askedPads 114 = .ok (.aload_n 0, 1) := by decide +kernel
theorem dX10_askedPads_115 : decode cX10_askedPads 115 = .ok (.iconst 3, 1) := by decide +kernel
theorem dX10_askedPads_116 : decode cX10_askedPads 116 = .ok (.invokevirtual 99, 3) := by decide +kernel
theorem dX10_askedPads_119 : decode cX10_askedPads 119 = .ok (.istore_n 3, 1) := by decide +kernel
theorem dX10_askedPads_120 : decode cX10_askedPads 120 = .ok (.iinc 4 1, 3) := by decide +kernel
theorem dX10_askedPads_123 : decode cX10_askedPads 123 = .ok (.goto (-42), 3) := by decide +kernel
theorem dX10_askedPads_126 : decode cX10_askedPads 126 = .ok (.iload_n 3, 1) := by decide +kernel
theorem dX10_askedPads_127 : decode cX10_askedPads 127 = .ok (.ireturn, 1) := by decide +kernel
theorem dX10_kept_0 : decode cX10_kept 0 = .ok (.iload_n 1, 1) := by decide +kernel
theorem dX10_kept_1 : decode cX10_kept 1 = .ok (.invokestatic 95, 3) := by decide +kernel
theorem dX10_kept_4 : decode cX10_kept 4 = .ok (.ifCond .eq 10, 3) := by decide +kernel
theorem dX10_kept_7 : decode cX10_kept 7 = .ok (.iload_n 2, 1) := by decide +kernel
theorem dX10_kept_8 : decode cX10_kept 8 = .ok (.invokestatic 95, 3) := by decide +kernel
theorem dX10_kept_11 : decode cX10_kept 11 = .ok (.ifCond .ne 5, 3) := by decide +kernel
theorem dX10_kept_14 : decode cX10_kept 14 = .ok (.iconst (-1), 1) := by decide +kernel
theorem dX10_kept_15 : decode cX10_kept 15 = .ok (.ireturn, 1) := by decide +kernel
theorem dX10_kept_16 : decode cX10_kept 16 = .ok (.aload_n 0, 1) := by decide +kernel
theorem dX10_kept_17 : decode cX10_kept 17 = .ok (.iload_n 1, 1) := by decide +kernel
theorem dX10_kept_18 : decode cX10_kept 18 = .ok (.iload_n 2, 1) := by decide +kernel
theorem dX10_kept_19 : decode cX10_kept 19 = .ok (.invokevirtual 264, 3) := by decide +kernel
theorem dX10_kept_22 : decode cX10_kept 22 = .ok (.istore_n 3, 1) := by decide +kernel
theorem dX10_kept_23 : decode cX10_kept 23 = .ok (.iload_n 3, 1) := by decide +kernel
theorem dX10_kept_24 : decode cX10_kept 24 = .ok (.ifCond .ge 5, 3) := by decide +kernel
theorem dX10_kept_27 : decode cX10_kept 27 = .ok (.iload_n 3, 1) := by decide +kernel
theorem dX10_kept_28 : decode cX10_kept 28 = .ok (.ireturn, 1) := by decide +kernel
theorem dX10_kept_29 : decode cX10_kept 29 = .ok (.aload_n 0, 1) := by decide +kernel
theorem dX10_kept_30 : decode cX10_kept 30 = .ok (.iload_n 2, 1) := by decide +kernel
theorem dX10_kept_31 : decode cX10_kept 31 = .ok (.invokevirtual 267, 3) := by decide +kernel
theorem dX10_kept_34 : decode cX10_kept 34 = .ok (.lstore 4, 2) := by decide +kernel
theorem dX10_kept_36 : decode cX10_kept 36 = .ok (.aload_n 0, 1) := by decide +kernel
theorem dX10_kept_37 : decode cX10_kept 37 = .ok (.lload 4, 2) := by decide +kernel
theorem dX10_kept_39 : decode cX10_kept 39 = .ok (.aload_n 0, 1) := by decide +kernel
theorem dX10_kept_40 : decode cX10_kept 40 = .ok (.invokevirtual 232, 3) := by decide +kernel
theorem dX10_kept_43 : decode cX10_kept 43 = .ok (.invokestatic 244, 3) := by decide +kernel
theorem dX10_kept_46 : decode cX10_kept 46 = .ok (.aload_n 0, 1) := by decide +kernel
theorem dX10_kept_47 : decode cX10_kept 47 = .ok (.getfield 261, 3) := by decide +kernel
theorem dX10_kept_50 : decode cX10_kept 50 = .ok (.invokevirtual 248, 3) := by decide +kernel
theorem dX10_kept_53 : decode cX10_kept 53 = .ok (.ireturn, 1) := by decide +kernel
theorem dX10_sit_0 : decode cX10_sit 0 = .ok (.iload_n 1, 1) := by decide +kernel
theorem dX10_sit_1 : decode cX10_sit 1 = .ok (.aload_n 0, 1) := by decide +kernel
theorem dX10_sit_2 : decode cX10_sit 2 = .ok (.getfield 227, 3) := by decide +kernel
theorem dX10_sit_5 : decode cX10_sit 5 = .ok (.if_icmp .ne 88, 3) := by decide +kernel
theorem dX10_sit_8 : decode cX10_sit 8 = .ok (.aload_n 0, 1) := by decide +kernel
theorem dX10_sit_9 : decode cX10_sit 9 = .ok (.iload_n 3, 1) := by decide +kernel
theorem dX10_sit_10 : decode cX10_sit 10 = .ok (.invokevirtual 267, 3) := by decide +kernel
theorem dX10_sit_13 : decode cX10_sit 13 = .ok (.lstore 4, 2) := by decide +kernel
theorem dX10_sit_15 : decode cX10_sit 15 = .ok (.lload 4, 2) := by decide +kernel
theorem dX10_sit_17 : decode cX10_sit 17 = .ok (.aload_n 0, 1) := by decide +kernel
theorem dX10_sit_18 : decode cX10_sit 18 = .ok (.getfield 270, 3) := by decide +kernel
theorem dX10_sit_21 : decode cX10_sit 21 = .ok (.lcmp, 1) := by decide +kernel
theorem dX10_sit_22 : decode cX10_sit 22 = .ok (.ifCond .le 46, 3) := by decide +kernel
theorem dX10_sit_25 : decode cX10_sit 25 = .ok (.aload_n 0, 1) := by decide +kernel
theorem dX10_sit_26 : decode cX10_sit 26 = .ok (.lload 4, 2) := by decide +kernel
theorem dX10_sit_28 : decode cX10_sit 28 = .ok (.putfield 270, 3) := by decide +kernel
theorem dX10_sit_31 : decode cX10_sit 31 = .ok (.aload_n 0, 1) := by decide +kernel
theorem dX10_sit_32 : decode cX10_sit 32 = .ok (.iconst 0, 1) := by decide +kernel
theorem dX10_sit_33 : decode cX10_sit 33 = .ok (.putfield 273, 3) := by decide +kernel
theorem dX10_sit_36 : decode cX10_sit 36 = .ok (.iconst 0, 1) := by decide +kernel
theorem dX10_sit_37 : decode cX10_sit 37 = .ok (.istore 6, 2) := by decide +kernel
theorem dX10_sit_39 : decode cX10_sit 39 = .ok (.iload 6, 2) := by decide +kernel
theorem dX10_sit_41 : decode cX10_sit 41 = .ok (.aload_n 0, 1) := by decide +kernel
theorem dX10_sit_42 : decode cX10_sit 42 = .ok (.getfield 227, 3) := by decide +kernel
theorem dX10_sit_45 : decode cX10_sit 45 = .ok (.if_icmp .ge 23, 3) := by decide +kernel
theorem dX10_sit_48 : decode cX10_sit 48 = .ok (.aload_n 0, 1) := by decide +kernel
theorem dX10_sit_49 : decode cX10_sit 49 = .ok (.getfield 69, 3) := by decide +kernel
theorem dX10_sit_52 : decode cX10_sit 52 = .ok (.iload 6, 2) := by decide +kernel
theorem dX10_sit_54 : decode cX10_sit 54 = .ok (.aload_n 0, 1) := by decide +kernel
theorem dX10_sit_55 : decode cX10_sit 55 = .ok (.getfield 53, 3) := by decide +kernel
theorem dX10_sit_58 : decode cX10_sit 58 = .ok (.iload 6, 2) := by decide +kernel
theorem dX10_sit_60 : decode cX10_sit 60 = .ok (.iaload, 1) := by decide +kernel
theorem dX10_sit_61 : decode cX10_sit 61 = .ok (.iastore, 1) := by decide +kernel
theorem dX10_sit_62 : decode cX10_sit 62 = .ok (.iinc 6 1, 3) := by decide +kernel
theorem dX10_sit_65 : decode cX10_sit 65 = .ok (.goto (-26), 3) := by decide +kernel
theorem dX10_sit_68 : decode cX10_sit 68 = .ok (.aload_n 0, 1) := by decide +kernel
theorem dX10_sit_69 : decode cX10_sit 69 = .ok (.dup, 1) := by decide +kernel
theorem dX10_sit_70 : decode cX10_sit 70 = .ok (.getfield 273, 3) := by decide +kernel
theorem dX10_sit_73 : decode cX10_sit 73 = .ok (.lload 4, 2) := by decide +kernel
theorem dX10_sit_75 : decode cX10_sit 75 = .ok (.aload_n 0, 1) := by decide +kernel
theorem dX10_sit_76 : decode cX10_sit 76 = .ok (.getfield 270, 3) := by decide +kernel
theorem dX10_sit_79 : decode cX10_sit 79 = .ok (.lcmp, 1) := by decide +kernel
theorem dX10_sit_80 : decode cX10_sit 80 = .ok (.ifCond .ne 7, 3) := by decide +kernel
theorem dX10_sit_83 : decode cX10_sit 83 = .ok (.iconst 1, 1) := by decide +kernel
theorem dX10_sit_84 : decode cX10_sit 84 = .ok (.goto 4, 3) := by decide +kernel
theorem dX10_sit_87 : decode cX10_sit 87 = .ok (.iconst 0, 1) := by decide +kernel
theorem dX10_sit_88 : decode cX10_sit 88 = .ok (.iadd, 1) := by decide +kernel
theorem dX10_sit_89 : decode cX10_sit 89 = .ok (.putfield 273, 3) := by decide +kernel
theorem dX10_sit_92 : decode cX10_sit 92 = .ok (.return_, 1) := by decide +kernel
theorem dX10_sit_93 : decode cX10_sit 93 = .ok (.iconst 0, 1) := by decide +kernel
theorem dX10_sit_94 : decode cX10_sit 94 = .ok (.istore 4, 2) := by decide +kernel
theorem dX10_sit_96 : decode cX10_sit 96 = .ok (.iload 4, 2) := by decide +kernel
theorem dX10_sit_98 : decode cX10_sit 98 = .ok (.aload_n 0, 1) := by decide +kernel
theorem dX10_sit_99 : decode cX10_sit 99 = .ok (.getfield 227, 3) := by decide +kernel
theorem dX10_sit_102 : decode cX10_sit 102 = .ok (.iconst 1, 1) := by decide +kernel
theorem dX10_sit_103 : decode cX10_sit 103 = .ok (.isub, 1) := by decide +kernel
theorem dX10_sit_104 : decode cX10_sit 104 = .ok (.if_icmp .ge 45, 3) := by decide +kernel
theorem dX10_sit_107 : decode cX10_sit 107 = .ok (.iload_n 2, 1) := by decide +kernel
theorem dX10_sit_108 : decode cX10_sit 108 = .ok (.iload 4, 2) := by decide +kernel
theorem dX10_sit_110 : decode cX10_sit 110 = .ok (.ishr, 1) := by decide +kernel
theorem dX10_sit_111 : decode cX10_sit 111 = .ok (.iconst 1, 1) := by decide +kernel
theorem dX10_sit_112 : decode cX10_sit 112 = .ok (.iand, 1) := by decide +kernel
theorem dX10_sit_113 : decode cX10_sit 113 = .ok (.ifCond .ne 30, 3) := by decide +kernel
theorem dX10_sit_116 : decode cX10_sit 116 = .ok (.aload_n 0, 1) := by decide +kernel
theorem dX10_sit_117 : decode cX10_sit 117 = .ok (.getfield 53, 3) := by decide +kernel
theorem dX10_sit_120 : decode cX10_sit 120 = .ok (.iload_n 1, 1) := by decide +kernel
theorem dX10_sit_121 : decode cX10_sit 121 = .ok (.aload_n 0, 1) := by decide +kernel
theorem dX10_sit_122 : decode cX10_sit 122 = .ok (.getfield 66, 3) := by decide +kernel
theorem dX10_sit_125 : decode cX10_sit 125 = .ok (.iload 4, 2) := by decide +kernel
theorem dX10_sit_127 : decode cX10_sit 127 = .ok (.iaload, 1) := by decide +kernel
theorem dX10_sit_128 : decode cX10_sit 128 = .ok (.iastore, 1) := by decide +kernel
theorem dX10_sit_129 : decode cX10_sit 129 = .ok (.aload_n 0, 1) := by decide +kernel
theorem dX10_sit_130 : decode cX10_sit 130 = .ok (.iload_n 1, 1) := by decide +kernel
theorem dX10_sit_131 : decode cX10_sit 131 = .ok (.iconst 1, 1) := by decide +kernel
theorem dX10_sit_132 : decode cX10_sit 132 = .ok (.iadd, 1) := by decide +kernel
theorem dX10_sit_133 : decode cX10_sit 133 = .ok (.iload_n 2, 1) := by decide +kernel
theorem dX10_sit_134 : decode cX10_sit 134 = .ok (.iconst 1, 1) := by decide +kernel
theorem dX10_sit_135 : decode cX10_sit 135 = .ok (.iload 4, 2) := by decide +kernel
theorem dX10_sit_137 : decode cX10_sit 137 = .ok (.ishl, 1) := by decide +kernel
theorem dX10_sit_138 : decode cX10_sit 138 = .ok (.ior, 1) := by decide +kernel
theorem dX10_sit_139 : decode cX10_sit 139 = .ok (.iload_n 3, 1) := by decide +kernel
theorem dX10_sit_140 : decode cX10_sit 140 = .ok (.invokevirtual 276, 3) := by decide +kernel
theorem dX10_sit_143 : decode cX10_sit 143 = .ok (.iinc 4 1, 3) := by decide +kernel
theorem dX10_sit_146 : decode cX10_sit 146 = .ok (.goto (-50), 3) := by decide +kernel
theorem dX10_sit_149 : decode cX10_sit 149 = .ok (.return_, 1) := by decide +kernel
theorem dX10_seats_0 : decode cX10_seats 0 = .ok (.iload_n 1, 1) := by decide +kernel
theorem dX10_seats_1 : decode cX10_seats 1 = .ok (.invokestatic 95, 3) := by decide +kernel
theorem dX10_seats_4 : decode cX10_seats 4 = .ok (.ifCond .eq 17, 3) := by decide +kernel
theorem dX10_seats_7 : decode cX10_seats 7 = .ok (.iload_n 2, 1) := by decide +kernel
theorem dX10_seats_8 : decode cX10_seats 8 = .ok (.invokestatic 95, 3) := by decide +kernel
theorem dX10_seats_11 : decode cX10_seats 11 = .ok (.ifCond .eq 10, 3) := by decide +kernel
theorem dX10_seats_14 : decode cX10_seats 14 = .ok (.iload_n 3, 1) := by decide +kernel
theorem dX10_seats_15 : decode cX10_seats 15 = .ok (.invokestatic 95, 3) := by decide +kernel
theorem dX10_seats_18 : decode cX10_seats 18 = .ok (.ifCond .ne 5, 3) := by decide +kernel
theorem dX10_seats_21 : decode cX10_seats 21 = .ok (.iconst (-1), 1) := by decide +kernel
theorem dX10_seats_22 : decode cX10_seats 22 = .ok (.ireturn, 1) := by decide +kernel
theorem dX10_seats_23 : decode cX10_seats 23 = .ok (.aload_n 0, 1) := by decide +kernel
theorem dX10_seats_24 : decode cX10_seats 24 = .ok (.iload_n 1, 1) := by decide +kernel
theorem dX10_seats_25 : decode cX10_seats 25 = .ok (.iload_n 2, 1) := by decide +kernel
theorem dX10_seats_26 : decode cX10_seats 26 = .ok (.invokevirtual 264, 3) := by decide +kernel
theorem dX10_seats_29 : decode cX10_seats 29 = .ok (.istore 4, 2) := by decide +kernel
theorem dX10_seats_31 : decode cX10_seats 31 = .ok (.iload 4, 2) := by decide +kernel
theorem dX10_seats_33 : decode cX10_seats 33 = .ok (.ifCond .ge 6, 3) := by decide +kernel
theorem dX10_seats_36 : decode cX10_seats 36 = .ok (.iload 4, 2) := by decide +kernel
theorem dX10_seats_38 : decode cX10_seats 38 = .ok (.ireturn, 1) := by decide +kernel
theorem dX10_seats_39 : decode cX10_seats 39 = .ok (.aload_n 0, 1) := by decide +kernel
theorem dX10_seats_40 : decode cX10_seats 40 = .ok (.getfield 227, 3) := by decide +kernel
theorem dX10_seats_43 : decode cX10_seats 43 = .ok (.bipush 6, 2) := by decide +kernel
theorem dX10_seats_45 : decode cX10_seats 45 = .ok (.if_icmp .le 6, 3) := by decide +kernel
theorem dX10_seats_48 : decode cX10_seats 48 = .ok (.bipush (-6), 2) := by decide +kernel
theorem dX10_seats_50 : decode cX10_seats 50 = .ok (.ireturn, 1) := by decide +kernel
theorem dX10_seats_51 : decode cX10_seats 51 = .ok (.iconst 0, 1) := by decide +kernel
theorem dX10_seats_52 : decode cX10_seats 52 = .ok (.istore 5, 2) := by decide +kernel
theorem dX10_seats_54 : decode cX10_seats 54 = .ok (.iconst 0, 1) := by decide +kernel
theorem dX10_seats_55 : decode cX10_seats 55 = .ok (.istore 6, 2) := by decide +kernel
theorem dX10_seats_57 : decode cX10_seats 57 = .ok (.iload 6, 2) := by decide +kernel
theorem dX10_seats_59 : decode cX10_seats 59 = .ok (.aload_n 0, 1) := by decide +kernel
theorem dX10_seats_60 : decode cX10_seats 60 = .ok (.getfield 138, 3) := by decide +kernel
theorem dX10_seats_63 : decode cX10_seats 63 = .ok (.if_icmp .ge 51, 3) := by decide +kernel
theorem dX10_seats_66 : decode cX10_seats 66 = .ok (.iconst 1, 1) := by decide +kernel
theorem dX10_seats_67 : decode cX10_seats 67 = .ok (.istore 7, 2) := by decide +kernel
theorem dX10_seats_69 : decode cX10_seats 69 = .ok (.iload 7, 2) := by decide +kernel
theorem dX10_seats_71 : decode cX10_seats 71 = .ok (.aload_n 0, 1) := by decide +kernel
theorem dX10_seats_72 : decode cX10_seats 72 = .ok (.getfield 227, 3) := by decide +kernel
theorem dX10_seats_75 : decode cX10_seats 75 = .ok (.if_icmp .ge 33, 3) := by decide +kernel
theorem dX10_seats_78 : decode cX10_seats 78 = .ok (.aload_n 0, 1) := by decide +kernel
theorem dX10_seats_79 : decode cX10_seats 79 = .ok (.iload_n 1, 1) := by decide +kernel
theorem dX10_seats_80 : decode cX10_seats 80 = .ok (.iload 7, 2) := by decide +kernel
theorem dX10_seats_82 : decode cX10_seats 82 = .ok (.invokevirtual 113, 3) := by decide +kernel
theorem dX10_seats_85 : decode cX10_seats 85 = .ok (.iload 6, 2) := by decide +kernel
theorem dX10_seats_87 : decode cX10_seats 87 = .ok (.if_icmp .ne 15, 3) := by decide +kernel
theorem dX10_seats_90 : decode cX10_seats 90 = .ok (.aload_n 0, 1) := by decide +kernel
theorem dX10_seats_91 : decode cX10_seats 91 = .ok (.getfield 66, 3) := by decide +kernel
theorem dX10_seats_94 : decode cX10_seats 94 = .ok (.iload 5, 2) := by decide +kernel
theorem dX10_seats_96 : decode cX10_seats 96 = .ok (.iload 6, 2) := by decide +kernel
theorem dX10_seats_98 : decode cX10_seats 98 = .ok (.iastore, 1) := by decide +kernel
theorem dX10_seats_99 : decode cX10_seats 99 = .ok (.iinc 5 1, 3) := by decide +kernel
theorem dX10_seats_102 : decode cX10_seats 102 = .ok (.iinc 7 1, 3) := by decide +kernel
theorem dX10_seats_105 : decode cX10_seats 105 = .ok (.goto (-36), 3) := by decide +kernel
theorem dX10_seats_108 : decode cX10_seats 108 = .ok (.iinc 6 1, 3) := by decide +kernel
theorem dX10_seats_111 : decode cX10_seats 111 = .ok (.goto (-54), 3) := by decide +kernel
theorem dX10_seats_114 : decode cX10_seats 114 = .ok (.aload_n 0, 1) := by decide +kernel
theorem dX10_seats_115 : decode cX10_seats 115 = .ok (.ldc2_w 259, 3) := by decide +kernel
theorem dX10_seats_118 : decode cX10_seats 118 = .ok (.putfield 270, 3) := by decide +kernel
theorem dX10_seats_121 : decode cX10_seats 121 = .ok (.aload_n 0, 1) := by decide +kernel
theorem dX10_seats_122 : decode cX10_seats 122 = .ok (.iconst 1, 1) := by decide +kernel
theorem dX10_seats_123 : decode cX10_seats 123 = .ok (.iconst 0, 1) := by decide +kernel
theorem dX10_seats_124 : decode cX10_seats 124 = .ok (.iload_n 2, 1) := by decide +kernel
theorem dX10_seats_125 : decode cX10_seats 125 = .ok (.invokevirtual 276, 3) := by decide +kernel
theorem dX10_seats_128 : decode cX10_seats 128 = .ok (.aload_n 0, 1) := by decide +kernel
theorem dX10_seats_129 : decode cX10_seats 129 = .ok (.iload_n 3, 1) := by decide +kernel
theorem dX10_seats_130 : decode cX10_seats 130 = .ok (.aload_n 0, 1) := by decide +kernel
theorem dX10_seats_131 : decode cX10_seats 131 = .ok (.getfield 227, 3) := by decide +kernel
theorem dX10_seats_134 : decode cX10_seats 134 = .ok (.invokevirtual 206, 3) := by decide +kernel
theorem dX10_seats_137 : decode cX10_seats 137 = .ok (.pop, 1) := by decide +kernel
theorem dX10_seats_138 : decode cX10_seats 138 = .ok (.iconst 0, 1) := by decide +kernel
theorem dX10_seats_139 : decode cX10_seats 139 = .ok (.istore 6, 2) := by decide +kernel
theorem dX10_seats_141 : decode cX10_seats 141 = .ok (.iload 6, 2) := by decide +kernel
theorem dX10_seats_143 : decode cX10_seats 143 = .ok (.aload_n 0, 1) := by decide +kernel
theorem dX10_seats_144 : decode cX10_seats 144 = .ok (.getfield 227, 3) := by decide +kernel
theorem dX10_seats_147 : decode cX10_seats 147 = .ok (.if_icmp .ge 23, 3) := by decide +kernel
theorem dX10_seats_150 : decode cX10_seats 150 = .ok (.aload_n 0, 1) := by decide +kernel
theorem dX10_seats_151 : decode cX10_seats 151 = .ok (.iload_n 3, 1) := by decide +kernel
theorem dX10_seats_152 : decode cX10_seats 152 = .ok (.iload 6, 2) := by decide +kernel
theorem dX10_seats_154 : decode cX10_seats 154 = .ok (.aload_n 0, 1) := by decide +kernel
theorem dX10_seats_155 : decode cX10_seats 155 = .ok (.getfield 69, 3) := by decide +kernel
theorem dX10_seats_158 : decode cX10_seats 158 = .ok (.iload 6, 2) := by decide +kernel
theorem dX10_seats_160 : decode cX10_seats 160 = .ok (.iaload, 1) := by decide +kernel
theorem dX10_seats_161 : decode cX10_seats 161 = .ok (.invokevirtual 106, 3) := by decide +kernel
theorem dX10_seats_164 : decode cX10_seats 164 = .ok (.iinc 6 1, 3) := by decide +kernel
theorem dX10_seats_167 : decode cX10_seats 167 = .ok (.goto (-26), 3) := by decide +kernel
theorem dX10_seats_170 : decode cX10_seats 170 = .ok (.aload_n 0, 1) := by decide +kernel
theorem dX10_seats_171 : decode cX10_seats 171 = .ok (.aload_n 0, 1) := by decide +kernel
theorem dX10_seats_172 : decode cX10_seats 172 = .ok (.getfield 270, 3) := by decide +kernel
theorem dX10_seats_175 : decode cX10_seats 175 = .ok (.aload_n 0, 1) := by decide +kernel
theorem dX10_seats_176 : decode cX10_seats 176 = .ok (.invokevirtual 232, 3) := by decide +kernel
theorem dX10_seats_179 : decode cX10_seats 179 = .ok (.invokestatic 244, 3) := by decide +kernel
theorem dX10_seats_182 : decode cX10_seats 182 = .ok (.aload_n 0, 1) := by decide +kernel
theorem dX10_seats_183 : decode cX10_seats 183 = .ok (.getfield 273, 3) := by decide +kernel
theorem dX10_seats_186 : decode cX10_seats 186 = .ok (.invokevirtual 248, 3) := by decide +kernel
theorem dX10_seats_189 : decode cX10_seats 189 = .ok (.ireturn, 1) := by decide +kernel
theorem dX10_setFor_0 : decode cX10_setFor 0 = .ok (.iconst 0, 1) := by decide +kernel
theorem dX10_setFor_1 : decode cX10_setFor 1 = .ok (.istore 4, 2) := by decide +kernel
theorem dX10_setFor_3 : decode cX10_setFor 3 = .ok (.aload_n 0, 1) := by decide +kernel
theorem dX10_setFor_4 : decode cX10_setFor 4 = .ok (.iconst (-1), 1) := by decide +kernel
theorem dX10_setFor_5 : decode cX10_setFor 5 = .ok (.putfield 279, 3) := by decide +kernel
theorem dX10_setFor_8 : decode cX10_setFor 8 = .ok (.iconst 1, 1) := by decide +kernel
theorem dX10_setFor_9 : decode cX10_setFor 9 = .ok (.istore 5, 2) := by decide +kernel
theorem dX10_setFor_11 : decode cX10_setFor 11 = .ok (.iload 5, 2) := by decide +kernel
theorem dX10_setFor_13 : decode cX10_setFor 13 = .ok (.sipush 1024, 3) := by decide +kernel
theorem dX10_setFor_16 : decode cX10_setFor 16 = .ok (.if_icmp .ge 58, 3) := by decide +kernel
theorem dX10_setFor_19 : decode cX10_setFor 19 = .ok (.iload 5, 2) := by decide +kernel
theorem dX10_setFor_21 : decode cX10_setFor 21 = .ok (.invokestatic 282, 3) := by decide +kernel
theorem dX10_setFor_24 : decode cX10_setFor 24 = .ok (.iload_n 3, 1) := by decide +kernel
theorem dX10_setFor_25 : decode cX10_setFor 25 = .ok (.if_icmp .ne 43, 3) := by decide +kernel
theorem dX10_setFor_28 : decode cX10_setFor 28 = .ok (.aload_n 0, 1) := by decide +kernel
theorem dX10_setFor_29 : decode cX10_setFor 29 = .ok (.iload 5, 2) := by decide +kernel
theorem dX10_setFor_31 : decode cX10_setFor 31 = .ok (.invokevirtual 196, 3) := by decide +kernel
theorem dX10_setFor_34 : decode cX10_setFor 34 = .ok (.aload_n 0, 1) := by decide +kernel
theorem dX10_setFor_35 : decode cX10_setFor 35 = .ok (.iload_n 1, 1) := by decide +kernel
theorem dX10_setFor_36 : decode cX10_setFor 36 = .ok (.bipush (-9), 2) := by decide +kernel
theorem dX10_setFor_38 : decode cX10_setFor 38 = .ok (.invokevirtual 193, 3) := by decide +kernel
theorem dX10_setFor_41 : decode cX10_setFor 41 = .ok (.aload_n 0, 1) := by decide +kernel
theorem dX10_setFor_42 : decode cX10_setFor 42 = .ok (.getfield 50, 3) := by decide +kernel
theorem dX10_setFor_45 : decode cX10_setFor 45 = .ok (.iload_n 2, 1) := by decide +kernel
theorem dX10_setFor_46 : decode cX10_setFor 46 = .ok (.iaload, 1) := by decide +kernel
theorem dX10_setFor_47 : decode cX10_setFor 47 = .ok (.aload_n 0, 1) := by decide +kernel
theorem dX10_setFor_48 : decode cX10_setFor 48 = .ok (.getfield 279, 3) := by decide +kernel
theorem dX10_setFor_51 : decode cX10_setFor 51 = .ok (.if_icmp .le 17, 3) := by decide +kernel
theorem dX10_setFor_54 : decode cX10_setFor 54 = .ok (.aload_n 0, 1) := by decide +kernel
theorem dX10_setFor_55 : decode cX10_setFor 55 = .ok (.aload_n 0, 1) := by decide +kernel
theorem dX10_setFor_56 : decode cX10_setFor 56 = .ok (.getfield 50, 3) := by decide +kernel
theorem dX10_setFor_59 : decode cX10_setFor 59 = .ok (.iload_n 2, 1) := by decide +kernel
theorem dX10_setFor_60 : decode cX10_setFor 60 = .ok (.iaload, 1) := by decide +kernel
theorem dX10_setFor_61 : decode cX10_setFor 61 = .ok (.putfield 279, 3) := by decide +kernel
theorem dX10_setFor_64 : decode cX10_setFor 64 = .ok (.iload 5, 2) := by decide +kernel
theorem dX10_setFor_66 : decode cX10_setFor 66 = .ok (.istore 4, 2) := by decide +kernel
theorem dX10_setFor_68 : decode cX10_setFor 68 = .ok (.iinc 5 1, 3) := by decide +kernel
theorem dX10_setFor_71 : decode cX10_setFor 71 = .ok (.goto (-60), 3) := by decide +kernel
theorem dX10_setFor_74 : decode cX10_setFor 74 = .ok (.iload 4, 2) := by decide +kernel
theorem dX10_setFor_76 : decode cX10_setFor 76 = .ok (.ireturn, 1) := by decide +kernel
theorem dX10_parts_0 : decode cX10_parts 0 = .ok (.aload_n 0, 1) := by decide +kernel
theorem dX10_parts_1 : decode cX10_parts 1 = .ok (.iload_n 1, 1) := by decide +kernel
theorem dX10_parts_2 : decode cX10_parts 2 = .ok (.invokevirtual 162, 3) := by decide +kernel
theorem dX10_parts_5 : decode cX10_parts 5 = .ok (.ifCond .eq 21, 3) := by decide +kernel
theorem dX10_parts_8 : decode cX10_parts 8 = .ok (.aload_n 0, 1) := by decide +kernel
theorem dX10_parts_9 : decode cX10_parts 9 = .ok (.iload_n 2, 1) := by decide +kernel
theorem dX10_parts_10 : decode cX10_parts 10 = .ok (.invokevirtual 151, 3) := by decide +kernel
theorem dX10_parts_13 : decode cX10_parts 13 = .ok (.ifCond .eq 13, 3) := by decide +kernel
theorem dX10_parts_16 : decode cX10_parts 16 = .ok (.iload_n 3, 1) := by decide +kernel
theorem dX10_parts_17 : decode cX10_parts 17 = .ok (.iconst 1, 1) := by decide +kernel
theorem dX10_parts_18 : decode cX10_parts 18 = .ok (.bipush 6, 2) := by decide +kernel
theorem dX10_parts_20 : decode cX10_parts 20 = .ok (.invokestatic 91, 3) := by decide +kernel
theorem dX10_parts_23 : decode cX10_parts 23 = .ok (.ifCond .ne 5, 3) := by decide +kernel
theorem dX10_parts_26 : decode cX10_parts 26 = .ok (.iconst (-1), 1) := by decide +kernel
theorem dX10_parts_27 : decode cX10_parts 27 = .ok (.ireturn, 1) := by decide +kernel
theorem dX10_parts_28 : decode cX10_parts 28 = .ok (.aload_n 0, 1) := by decide +kernel
theorem dX10_parts_29 : decode cX10_parts 29 = .ok (.iload_n 1, 1) := by decide +kernel
theorem dX10_parts_30 : decode cX10_parts 30 = .ok (.iload_n 2, 1) := by decide +kernel
theorem dX10_parts_31 : decode cX10_parts 31 = .ok (.iload_n 3, 1) := by decide +kernel
theorem dX10_parts_32 : decode cX10_parts 32 = .ok (.invokevirtual 285, 3) := by decide +kernel
theorem dX10_parts_35 : decode cX10_parts 35 = .ok (.istore 4, 2) := by decide +kernel
theorem dX10_parts_37 : decode cX10_parts 37 = .ok (.aload_n 0, 1) := by decide +kernel
theorem dX10_parts_38 : decode cX10_parts 38 = .ok (.aload_n 0, 1) := by decide +kernel
theorem dX10_parts_39 : decode cX10_parts 39 = .ok (.getfield 279, 3) := by decide +kernel
theorem dX10_parts_42 : decode cX10_parts 42 = .ok (.iload 4, 2) := by decide +kernel
theorem dX10_parts_44 : decode cX10_parts 44 = .ok (.invokevirtual 117, 3) := by decide +kernel
theorem dX10_parts_47 : decode cX10_parts 47 = .ok (.ireturn, 1) := by decide +kernel
theorem dX10_few_0 : decode cX10_few 0 = .ok (.aload_n 0, 1) := by decide +kernel
theorem dX10_few_1 : decode cX10_few 1 = .ok (.iload_n 1, 1) := by decide +kernel
theorem dX10_few_2 : decode cX10_few 2 = .ok (.invokevirtual 162, 3) := by decide +kernel
theorem dX10_few_5 : decode cX10_few 5 = .ok (.ifCond .eq 21, 3) := by decide +kernel
theorem dX10_few_8 : decode cX10_few 8 = .ok (.aload_n 0, 1) := by decide +kernel
theorem dX10_few_9 : decode cX10_few 9 = .ok (.iload_n 2, 1) := by decide +kernel
theorem dX10_few_10 : decode cX10_few 10 = .ok (.invokevirtual 151, 3) := by decide +kernel
theorem dX10_few_13 : decode cX10_few 13 = .ok (.ifCond .eq 13, 3) := by decide +kernel
theorem dX10_few_16 : decode cX10_few 16 = .ok (.iload_n 3, 1) := by decide +kernel
theorem dX10_few_17 : decode cX10_few 17 = .ok (.iconst 1, 1) := by decide +kernel
theorem dX10_few_18 : decode cX10_few 18 = .ok (.bipush 24, 2) := by decide +kernel
theorem dX10_few_20 : decode cX10_few 20 = .ok (.invokestatic 91, 3) := by decide +kernel
theorem dX10_few_23 : decode cX10_few 23 = .ok (.ifCond .ne 5, 3) := by decide +kernel
theorem dX10_few_26 : decode cX10_few 26 = .ok (.iconst (-1), 1) := by decide +kernel
theorem dX10_few_27 : decode cX10_few 27 = .ok (.ireturn, 1) := by decide +kernel
theorem dX10_few_28 : decode cX10_few 28 = .ok (.iconst 1, 1) := by decide +kernel
theorem dX10_few_29 : decode cX10_few 29 = .ok (.istore 4, 2) := by decide +kernel
theorem dX10_few_31 : decode cX10_few 31 = .ok (.iload 4, 2) := by decide +kernel
theorem dX10_few_33 : decode cX10_few 33 = .ok (.bipush 6, 2) := by decide +kernel
theorem dX10_few_35 : decode cX10_few 35 = .ok (.if_icmp .gt 68, 3) := by decide +kernel
theorem dX10_few_38 : decode cX10_few 38 = .ok (.iconst 1, 1) := by decide +kernel
theorem dX10_few_39 : decode cX10_few 39 = .ok (.istore 5, 2) := by decide +kernel
theorem dX10_few_41 : decode cX10_few 41 = .ok (.iload 5, 2) := by decide +kernel
theorem dX10_few_43 : decode cX10_few 43 = .ok (.sipush 1024, 3) := by decide +kernel
theorem dX10_few_46 : decode cX10_few 46 = .ok (.if_icmp .ge 51, 3) := by decide +kernel
theorem dX10_few_49 : decode cX10_few 49 = .ok (.iload 5, 2) := by decide +kernel
theorem dX10_few_51 : decode cX10_few 51 = .ok (.invokestatic 282, 3) := by decide +kernel
theorem dX10_few_54 : decode cX10_few 54 = .ok (.iload 4, 2) := by decide +kernel
theorem dX10_few_56 : decode cX10_few 56 = .ok (.if_icmp .ne 35, 3) := by decide +kernel
theorem dX10_few_59 : decode cX10_few 59 = .ok (.aload_n 0, 1) := by decide +kernel
theorem dX10_few_60 : decode cX10_few 60 = .ok (.iload 5, 2) := by decide +kernel
theorem dX10_few_62 : decode cX10_few 62 = .ok (.invokevirtual 196, 3) := by decide +kernel
theorem dX10_few_65 : decode cX10_few 65 = .ok (.aload_n 0, 1) := by decide +kernel
theorem dX10_few_66 : decode cX10_few 66 = .ok (.iload_n 1, 1) := by decide +kernel
theorem dX10_few_67 : decode cX10_few 67 = .ok (.bipush (-9), 2) := by decide +kernel
theorem dX10_few_69 : decode cX10_few 69 = .ok (.invokevirtual 193, 3) := by decide +kernel
theorem dX10_few_72 : decode cX10_few 72 = .ok (.aload_n 0, 1) := by decide +kernel
theorem dX10_few_73 : decode cX10_few 73 = .ok (.getfield 50, 3) := by decide +kernel
theorem dX10_few_76 : decode cX10_few 76 = .ok (.iload_n 2, 1) := by decide +kernel
theorem dX10_few_77 : decode cX10_few 77 = .ok (.iaload, 1) := by decide +kernel
theorem dX10_few_78 : decode cX10_few 78 = .ok (.iload_n 3, 1) := by decide +kernel
theorem dX10_few_79 : decode cX10_few 79 = .ok (.if_icmp .lt 12, 3) := by decide +kernel
theorem dX10_few_82 : decode cX10_few 82 = .ok (.aload_n 0, 1) := by decide +kernel
theorem dX10_few_83 : decode cX10_few 83 = .ok (.iload 5, 2) := by decide +kernel
theorem dX10_few_85 : decode cX10_few 85 = .ok (.iload 4, 2) := by decide +kernel
theorem dX10_few_87 : decode cX10_few 87 = .ok (.invokevirtual 117, 3) := by decide +kernel
theorem dX10_few_90 : decode cX10_few 90 = .ok (.ireturn, 1) := by decide +kernel
theorem dX10_few_91 : decode cX10_few 91 = .ok (.iinc 5 1, 3) := by decide +kernel
theorem dX10_few_94 : decode cX10_few 94 = .ok (.goto (-53), 3) := by decide +kernel
theorem dX10_few_97 : decode cX10_few 97 = .ok (.iinc 4 1, 3) := by decide +kernel
theorem dX10_few_100 : decode cX10_few 100 = .ok (.goto (-69), 3) := by decide +kernel
theorem dX10_few_103 : decode cX10_few 103 = .ok (.bipush (-9), 2) := by decide +kernel
theorem dX10_few_105 : decode cX10_few 105 = .ok (.ireturn, 1) := by decide +kernel
theorem dX10_knownFrom_0 : decode cX10_knownFrom 0 = .ok (.iload_n 3, 1) := by decide +kernel
theorem dX10_knownFrom_1 : decode cX10_knownFrom 1 = .ok (.iconst 1, 1) := by decide +kernel
theorem dX10_knownFrom_2 : decode cX10_knownFrom 2 = .ok (.iadd, 1) := by decide +kernel
theorem dX10_knownFrom_3 : decode cX10_knownFrom 3 = .ok (.istore 4, 2) := by decide +kernel
theorem dX10_knownFrom_5 : decode cX10_knownFrom 5 = .ok (.iload_n 3, 1) := by decide +kernel
theorem dX10_knownFrom_6 : decode cX10_knownFrom 6 = .ok (.istore 5, 2) := by decide +kernel
theorem dX10_knownFrom_8 : decode cX10_knownFrom 8 = .ok (.iload 5, 2) := by decide +kernel
theorem dX10_knownFrom_10 : decode cX10_knownFrom 10 = .ok (.ifCond .le 67, 3) := by decide +kernel
theorem dX10_knownFrom_13 : decode cX10_knownFrom 13 = .ok (.aload_n 0, 1) := by decide +kernel
theorem dX10_knownFrom_14 : decode cX10_knownFrom 14 = .ok (.iload 5, 2) := by decide +kernel
theorem dX10_knownFrom_16 : decode cX10_knownFrom 16 = .ok (.putfield 178, 3) := by decide +kernel
theorem dX10_knownFrom_19 : decode cX10_knownFrom 19 = .ok (.iconst 0, 1) := by decide +kernel
theorem dX10_knownFrom_20 : decode cX10_knownFrom 20 = .ok (.istore 6, 2) := by decide +kernel
theorem dX10_knownFrom_22 : decode cX10_knownFrom 22 = .ok (.iload 6, 2) := by decide +kernel
theorem dX10_knownFrom_24 : decode cX10_knownFrom 24 = .ok (.iload 5, 2) := by decide +kernel
theorem dX10_knownFrom_26 : decode cX10_knownFrom 26 = .ok (.if_icmp .ge 23, 3) := by decide +kernel
theorem dX10_knownFrom_29 : decode cX10_knownFrom 29 = .ok (.aload_n 0, 1) := by decide +kernel
theorem dX10_knownFrom_30 : decode cX10_knownFrom 30 = .ok (.getfield 44, 3) := by decide +kernel
theorem dX10_knownFrom_33 : decode cX10_knownFrom 33 = .ok (.iload 6, 2) := by decide +kernel
theorem dX10_knownFrom_35 : decode cX10_knownFrom 35 = .ok (.aload_n 0, 1) := by decide +kernel
theorem dX10_knownFrom_36 : decode cX10_knownFrom 36 = .ok (.getfield 72, 3) := by decide +kernel
theorem dX10_knownFrom_39 : decode cX10_knownFrom 39 = .ok (.iload 6, 2) := by decide +kernel
theorem dX10_knownFrom_41 : decode cX10_knownFrom 41 = .ok (.iaload, 1) := by decide +kernel
theorem dX10_knownFrom_42 : decode cX10_knownFrom 42 = .ok (.iastore, 1) := by decide +kernel
theorem dX10_knownFrom_43 : decode cX10_knownFrom 43 = .ok (.iinc 6 1, 3) := by decide +kernel
theorem dX10_knownFrom_46 : decode cX10_knownFrom 46 = .ok (.goto (-24), 3) := by decide +kernel
theorem dX10_knownFrom_49 : decode cX10_knownFrom 49 = .ok (.aload_n 0, 1) := by decide +kernel
theorem dX10_knownFrom_50 : decode cX10_knownFrom 50 = .ok (.iload_n 1, 1) := by decide +kernel
theorem dX10_knownFrom_51 : decode cX10_knownFrom 51 = .ok (.bipush (-9), 2) := by decide +kernel
theorem dX10_knownFrom_53 : decode cX10_knownFrom 53 = .ok (.invokevirtual 193, 3) := by decide +kernel
theorem dX10_knownFrom_56 : decode cX10_knownFrom 56 = .ok (.aload_n 0, 1) := by decide +kernel
theorem dX10_knownFrom_57 : decode cX10_knownFrom 57 = .ok (.invokevirtual 200, 3) := by decide +kernel
theorem dX10_knownFrom_60 : decode cX10_knownFrom 60 = .ok (.iload_n 2, 1) := by decide +kernel
theorem dX10_knownFrom_61 : decode cX10_knownFrom 61 = .ok (.if_icmp .eq 6, 3) := by decide +kernel
theorem dX10_knownFrom_64 : decode cX10_knownFrom 64 = .ok (.iload 4, 2) := by decide +kernel
theorem dX10_knownFrom_66 : decode cX10_knownFrom 66 = .ok (.ireturn, 1) := by decide +kernel
theorem dX10_knownFrom_67 : decode cX10_knownFrom 67 = .ok (.iload 5, 2) := by decide +kernel
theorem dX10_knownFrom_69 : decode cX10_knownFrom 69 = .ok (.istore 4, 2) := by decide +kernel
theorem dX10_knownFrom_71 : decode cX10_knownFrom 71 = .ok (.iinc 5 (-1), 3) := by decide +kernel
theorem dX10_knownFrom_74 : decode cX10_knownFrom 74 = .ok (.goto (-66), 3) := by decide +kernel
theorem dX10_knownFrom_77 : decode cX10_knownFrom 77 = .ok (.iload 4, 2) := by decide +kernel
theorem dX10_knownFrom_79 : decode cX10_knownFrom 79 = .ok (.ireturn, 1) := by decide +kernel
theorem dX10_watch_0 : decode cX10_watch 0 = .ok (.iload 4, 2) := by decide +kernel
theorem dX10_watch_2 : decode cX10_watch 2 = .ok (.iload 5, 2) := by decide +kernel
theorem dX10_watch_4 : decode cX10_watch 4 = .ok (.if_icmp .ne 59, 3) := by decide +kernel
theorem dX10_watch_7 : decode cX10_watch 7 = .ok (.aload_n 0, 1) := by decide +kernel
theorem dX10_watch_8 : decode cX10_watch 8 = .ok (.iload_n 1, 1) := by decide +kernel
theorem dX10_watch_9 : decode cX10_watch 9 = .ok (.iload_n 2, 1) := by decide +kernel
theorem dX10_watch_10 : decode cX10_watch 10 = .ok (.iload 5, 2) := by decide +kernel
theorem dX10_watch_12 : decode cX10_watch 12 = .ok (.invokevirtual 288, 3) := by decide +kernel
theorem dX10_watch_15 : decode cX10_watch 15 = .ok (.istore 6, 2) := by decide +kernel
theorem dX10_watch_17 : decode cX10_watch 17 = .ok (.iload 6, 2) := by decide +kernel
theorem dX10_watch_19 : decode cX10_watch 19 = .ok (.aload_n 0, 1) := by decide +kernel
theorem dX10_watch_20 : decode cX10_watch 20 = .ok (.getfield 291, 3) := by decide +kernel
theorem dX10_watch_23 : decode cX10_watch 23 = .ok (.if_icmp .ge 39, 3) := by decide +kernel
theorem dX10_watch_26 : decode cX10_watch 26 = .ok (.aload_n 0, 1) := by decide +kernel
theorem dX10_watch_27 : decode cX10_watch 27 = .ok (.iload 6, 2) := by decide +kernel
theorem dX10_watch_29 : decode cX10_watch 29 = .ok (.putfield 291, 3) := by decide +kernel
theorem dX10_watch_32 : decode cX10_watch 32 = .ok (.iconst 0, 1) := by decide +kernel
theorem dX10_watch_33 : decode cX10_watch 33 = .ok (.istore 7, 2) := by decide +kernel
theorem dX10_watch_35 : decode cX10_watch 35 = .ok (.iload 7, 2) := by decide +kernel
theorem dX10_watch_37 : decode cX10_watch 37 = .ok (.iload 5, 2) := by decide +kernel
theorem dX10_watch_39 : decode cX10_watch 39 = .ok (.if_icmp .ge 23, 3) := by decide +kernel
theorem dX10_watch_42 : decode cX10_watch 42 = .ok (.aload_n 0, 1) := by decide +kernel
theorem dX10_watch_43 : decode cX10_watch 43 = .ok (.getfield 75, 3) := by decide +kernel
theorem dX10_watch_46 : decode cX10_watch 46 = .ok (.iload 7, 2) := by decide +kernel
theorem dX10_watch_48 : decode cX10_watch 48 = .ok (.aload_n 0, 1) := by decide +kernel
theorem dX10_watch_49 : decode cX10_watch 49 = .ok (.getfield 72, 3) := by decide +kernel
theorem dX10_watch_52 : decode cX10_watch 52 = .ok (.iload 7, 2) := by decide +kernel
theorem dX10_watch_54 : decode cX10_watch 54 = .ok (.iaload, 1) := by decide +kernel
theorem dX10_watch_55 : decode cX10_watch 55 = .ok (.iastore, 1) := by decide +kernel
theorem dX10_watch_56 : decode cX10_watch 56 = .ok (.iinc 7 1, 3) := by decide +kernel
theorem dX10_watch_59 : decode cX10_watch 59 = .ok (.goto (-24), 3) := by decide +kernel
theorem dX10_watch_62 : decode cX10_watch 62 = .ok (.return_, 1) := by decide +kernel
theorem dX10_watch_63 : decode cX10_watch 63 = .ok (.iconst 0, 1) := by decide +kernel
theorem dX10_watch_64 : decode cX10_watch 64 = .ok (.istore 6, 2) := by decide +kernel
theorem dX10_watch_66 : decode cX10_watch 66 = .ok (.iload 6, 2) := by decide +kernel
theorem dX10_watch_68 : decode cX10_watch 68 = .ok (.bipush 10, 2) := by decide +kernel
theorem dX10_watch_70 : decode cX10_watch 70 = .ok (.if_icmp .ge 48, 3) := by decide +kernel
theorem dX10_watch_73 : decode cX10_watch 73 = .ok (.iload_n 3, 1) := by decide +kernel
theorem dX10_watch_74 : decode cX10_watch 74 = .ok (.iload 6, 2) := by decide +kernel
theorem dX10_watch_76 : decode cX10_watch 76 = .ok (.ishr, 1) := by decide +kernel
theorem dX10_watch_77 : decode cX10_watch 77 = .ok (.iconst 1, 1) := by decide +kernel
theorem dX10_watch_78 : decode cX10_watch 78 = .ok (.iand, 1) := by decide +kernel
theorem dX10_watch_79 : decode cX10_watch 79 = .ok (.iconst 1, 1) := by decide +kernel
theorem dX10_watch_80 : decode cX10_watch 80 = .ok (.if_icmp .ne 32, 3) := by decide +kernel
theorem dX10_watch_83 : decode cX10_watch 83 = .ok (.aload_n 0, 1) := by decide +kernel
theorem dX10_watch_84 : decode cX10_watch 84 = .ok (.getfield 72, 3) := by decide +kernel
theorem dX10_watch_87 : decode cX10_watch 87 = .ok (.iload 4, 2) := by decide +kernel
theorem dX10_watch_89 : decode cX10_watch 89 = .ok (.iload 6, 2) := by decide +kernel
theorem dX10_watch_91 : decode cX10_watch 91 = .ok (.iastore, 1) := by decide +kernel
theorem dX10_watch_92 : decode cX10_watch 92 = .ok (.aload_n 0, 1) := by decide +kernel
theorem dX10_watch_93 : decode cX10_watch 93 = .ok (.iload_n 1, 1) := by decide +kernel
theorem dX10_watch_94 : decode cX10_watch 94 = .ok (.iload_n 2, 1) := by decide +kernel
theorem dX10_watch_95 : decode cX10_watch 95 = .ok (.iload_n 3, 1) := by decide +kernel
theorem dX10_watch_96 : decode cX10_watch 96 = .ok (.iconst 1, 1) := by decide +kernel
theorem dX10_watch_97 : decode cX10_watch 97 = .ok (.iload 6, 2) := by decide +kernel
theorem dX10_watch_99 : decode cX10_watch 99 = .ok (.ishl, 1) := by decide +kernel
theorem dX10_watch_100 : decode cX10_watch 100 = .ok (.iconst (-1), 1) := by decide +kernel
theorem dX10_watch_101 : decode cX10_watch 101 = .ok (.ixor, 1) := by decide +kernel
theorem dX10_watch_102 : decode cX10_watch 102 = .ok (.iand, 1) := by decide +kernel
theorem dX10_watch_103 : decode cX10_watch 103 = .ok (.iload 4, 2) := by decide +kernel
theorem dX10_watch_105 : decode cX10_watch 105 = .ok (.iconst 1, 1) := by decide +kernel
theorem dX10_watch_106 : decode cX10_watch 106 = .ok (.iadd, 1) := by decide +kernel
theorem dX10_watch_107 : decode cX10_watch 107 = .ok (.iload 5, 2) := by decide +kernel
theorem dX10_watch_109 : decode cX10_watch 109 = .ok (.invokevirtual 294, 3) := by decide +kernel
theorem dX10_watch_112 : decode cX10_watch 112 = .ok (.iinc 6 1, 3) := by decide +kernel
theorem dX10_watch_115 : decode cX10_watch 115 = .ok (.goto (-49), 3) := by decide +kernel
theorem dX10_watch_118 : decode cX10_watch 118 = .ok (.return_, 1) := by decide +kernel
theorem dX10_soon_0 : decode cX10_soon 0 = .ok (.aload_n 0, 1) := by decide +kernel
theorem dX10_soon_1 : decode cX10_soon 1 = .ok (.iload_n 1, 1) := by decide +kernel
theorem dX10_soon_2 : decode cX10_soon 2 = .ok (.invokevirtual 162, 3) := by decide +kernel
theorem dX10_soon_5 : decode cX10_soon 5 = .ok (.ifCond .eq 26, 3) := by decide +kernel
theorem dX10_soon_8 : decode cX10_soon 8 = .ok (.aload_n 0, 1) := by decide +kernel
theorem dX10_soon_9 : decode cX10_soon 9 = .ok (.iload_n 2, 1) := by decide +kernel
theorem dX10_soon_10 : decode cX10_soon 10 = .ok (.invokevirtual 151, 3) := by decide +kernel
theorem dX10_soon_13 : decode cX10_soon 13 = .ok (.ifCond .eq 18, 3) := by decide +kernel
theorem dX10_soon_16 : decode cX10_soon 16 = .ok (.iload_n 3, 1) := by decide +kernel
theorem dX10_soon_17 : decode cX10_soon 17 = .ok (.invokestatic 95, 3) := by decide +kernel
theorem dX10_soon_20 : decode cX10_soon 20 = .ok (.ifCond .eq 11, 3) := by decide +kernel
theorem dX10_soon_23 : decode cX10_soon 23 = .ok (.iload 4, 2) := by decide +kernel
theorem dX10_soon_25 : decode cX10_soon 25 = .ok (.invokestatic 95, 3) := by decide +kernel
theorem dX10_soon_28 : decode cX10_soon 28 = .ok (.ifCond .ne 5, 3) := by decide +kernel
theorem dX10_soon_31 : decode cX10_soon 31 = .ok (.iconst (-1), 1) := by decide +kernel
theorem dX10_soon_32 : decode cX10_soon 32 = .ok (.ireturn, 1) := by decide +kernel
theorem dX10_soon_33 : decode cX10_soon 33 = .ok (.aload_n 0, 1) := by decide +kernel
theorem dX10_soon_34 : decode cX10_soon 34 = .ok (.iload_n 3, 1) := by decide +kernel
theorem dX10_soon_35 : decode cX10_soon 35 = .ok (.invokevirtual 212, 3) := by decide +kernel
theorem dX10_soon_38 : decode cX10_soon 38 = .ok (.istore 5, 2) := by decide +kernel
theorem dX10_soon_40 : decode cX10_soon 40 = .ok (.iload 5, 2) := by decide +kernel
theorem dX10_soon_42 : decode cX10_soon 42 = .ok (.ifCond .ge 6, 3) := by decide +kernel
theorem dX10_soon_45 : decode cX10_soon 45 = .ok (.iload 5, 2) := by decide +kernel
theorem dX10_soon_47 : decode cX10_soon 47 = .ok (.ireturn, 1) := by decide +kernel
theorem dX10_soon_48 : decode cX10_soon 48 = .ok (.aload_n 0, 1) := by decide +kernel
theorem dX10_soon_49 : decode cX10_soon 49 = .ok (.getfield 17, 3) := by decide +kernel
theorem dX10_soon_52 : decode cX10_soon 52 = .ok (.iload_n 3, 1) := by decide +kernel
theorem dX10_soon_53 : decode cX10_soon 53 = .ok (.iaload, 1) := by decide +kernel
theorem dX10_soon_54 : decode cX10_soon 54 = .ok (.istore 6, 2) := by decide +kernel
theorem dX10_soon_56 : decode cX10_soon 56 = .ok (.aload_n 0, 1) := by decide +kernel
theorem dX10_soon_57 : decode cX10_soon 57 = .ok (.iload 6, 2) := by decide +kernel
theorem dX10_soon_59 : decode cX10_soon 59 = .ok (.iconst 1, 1) := by decide +kernel
theorem dX10_soon_60 : decode cX10_soon 60 = .ok (.iadd, 1) := by decide +kernel
theorem dX10_soon_61 : decode cX10_soon 61 = .ok (.putfield 291, 3) := by decide +kernel
theorem dX10_soon_64 : decode cX10_soon 64 = .ok (.aload_n 0, 1) := by decide +kernel
theorem dX10_soon_65 : decode cX10_soon 65 = .ok (.iload_n 1, 1) := by decide +kernel
theorem dX10_soon_66 : decode cX10_soon 66 = .ok (.iload_n 2, 1) := by decide +kernel
theorem dX10_soon_67 : decode cX10_soon 67 = .ok (.aload_n 0, 1) := by decide +kernel
theorem dX10_soon_68 : decode cX10_soon 68 = .ok (.iload_n 3, 1) := by decide +kernel
theorem dX10_soon_69 : decode cX10_soon 69 = .ok (.invokevirtual 297, 3) := by decide +kernel
theorem dX10_soon_72 : decode cX10_soon 72 = .ok (.iconst 0, 1) := by decide +kernel
theorem dX10_soon_73 : decode cX10_soon 73 = .ok (.iload 6, 2) := by decide +kernel
theorem dX10_soon_75 : decode cX10_soon 75 = .ok (.invokevirtual 294, 3) := by decide +kernel
theorem dX10_soon_78 : decode cX10_soon 78 = .ok (.aload_n 0, 1) := by decide +kernel
theorem dX10_soon_79 : decode cX10_soon 79 = .ok (.getfield 291, 3) := by decide +kernel
theorem dX10_soon_82 : decode cX10_soon 82 = .ok (.iload 6, 2) := by decide +kernel
theorem dX10_soon_84 : decode cX10_soon 84 = .ok (.if_icmp .le 6, 3) := by decide +kernel
theorem dX10_soon_87 : decode cX10_soon 87 = .ok (.bipush (-9), 2) := by decide +kernel
theorem dX10_soon_89 : decode cX10_soon 89 = .ok (.ireturn, 1) := by decide +kernel
theorem dX10_soon_90 : decode cX10_soon 90 = .ok (.aload_n 0, 1) := by decide +kernel
theorem dX10_soon_91 : decode cX10_soon 91 = .ok (.iload 4, 2) := by decide +kernel
theorem dX10_soon_93 : decode cX10_soon 93 = .ok (.iload 6, 2) := by decide +kernel
theorem dX10_soon_95 : decode cX10_soon 95 = .ok (.invokevirtual 206, 3) := by decide +kernel
theorem dX10_soon_98 : decode cX10_soon 98 = .ok (.pop, 1) := by decide +kernel
theorem dX10_soon_99 : decode cX10_soon 99 = .ok (.iconst 0, 1) := by decide +kernel
theorem dX10_soon_100 : decode cX10_soon 100 = .ok (.istore 7, 2) := by decide +kernel
theorem dX10_soon_102 : decode cX10_soon 102 = .ok (.iload 7, 2) := by decide +kernel
theorem dX10_soon_104 : decode cX10_soon 104 = .ok (.iload 6, 2) := by decide +kernel
theorem dX10_soon_106 : decode cX10_soon 106 = .ok (.if_icmp .ge 24, 3) := by decide +kernel
theorem dX10_soon_109 : decode cX10_soon 109 = .ok (.aload_n 0, 1) := by decide +kernel
theorem dX10_soon_110 : decode cX10_soon 110 = .ok (.iload 4, 2) := by decide +kernel
theorem dX10_soon_112 : decode cX10_soon 112 = .ok (.iload 7, 2) := by decide +kernel
theorem dX10_soon_114 : decode cX10_soon 114 = .ok (.aload_n 0, 1) := by decide +kernel
theorem dX10_soon_115 : decode cX10_soon 115 = .ok (.getfield 75, 3) := by decide +kernel
theorem dX10_soon_118 : decode cX10_soon 118 = .ok (.iload 7, 2) := by decide +kernel
theorem dX10_soon_120 : decode cX10_soon 120 = .ok (.iaload, 1) := by decide +kernel
theorem dX10_soon_121 : decode cX10_soon 121 = .ok (.invokevirtual 106, 3) := by decide +kernel
theorem dX10_soon_124 : decode cX10_soon 124 = .ok (.iinc 7 1, 3) := by decide +kernel
theorem dX10_soon_127 : decode cX10_soon 127 = .ok (.goto (-25), 3) := by decide +kernel
theorem dX10_soon_130 : decode cX10_soon 130 = .ok (.aload_n 0, 1) := by decide +kernel
theorem dX10_soon_131 : decode cX10_soon 131 = .ok (.getfield 291, 3) := by decide +kernel
theorem dX10_soon_134 : decode cX10_soon 134 = .ok (.ireturn, 1) := by decide +kernel
theorem dX10_common_0 : decode cX10_common 0 = .ok (.iload_n 1, 1) := by decide +kernel
theorem dX10_common_1 : decode cX10_common 1 = .ok (.iconst 0, 1) := by decide +kernel
theorem dX10_common_2 : decode cX10_common 2 = .ok (.bipush 7, 2) := by decide +kernel
theorem dX10_common_4 : decode cX10_common 4 = .ok (.invokestatic 91, 3) := by decide +kernel
theorem dX10_common_7 : decode cX10_common 7 = .ok (.ifCond .eq 13, 3) := by decide +kernel
theorem dX10_common_10 : decode cX10_common 10 = .ok (.iload_n 2, 1) := by decide +kernel
theorem dX10_common_11 : decode cX10_common 11 = .ok (.iconst 1, 1) := by decide +kernel
theorem dX10_common_12 : decode cX10_common 12 = .ok (.bipush 9, 2) := by decide +kernel
theorem dX10_common_14 : decode cX10_common 14 = .ok (.invokestatic 91, 3) := by decide +kernel
theorem dX10_common_17 : decode cX10_common 17 = .ok (.ifCond .ne 5, 3) := by decide +kernel
theorem dX10_common_20 : decode cX10_common 20 = .ok (.iconst (-1), 1) := by decide +kernel
theorem dX10_common_21 : decode cX10_common 21 = .ok (.ireturn, 1) := by decide +kernel
theorem dX10_common_22 : decode cX10_common 22 = .ok (.aload_n 0, 1) := by decide +kernel
theorem dX10_common_23 : decode cX10_common 23 = .ok (.iconst 0, 1) := by decide +kernel
theorem dX10_common_24 : decode cX10_common 24 = .ok (.invokevirtual 148, 3) := by decide +kernel
theorem dX10_common_27 : decode cX10_common 27 = .ok (.ifCond .eq 11, 3) := by decide +kernel
theorem dX10_common_30 : decode cX10_common 30 = .ok (.aload_n 0, 1) := by decide +kernel
theorem dX10_common_31 : decode cX10_common 31 = .ok (.iconst 1, 1) := by decide +kernel
theorem dX10_common_32 : decode cX10_common 32 = .ok (.invokevirtual 148, 3) := by decide +kernel
theorem dX10_common_35 : decode cX10_common 35 = .ok (.ifCond .ne 9, 3) := by decide +kernel
theorem dX10_common_38 : decode cX10_common 38 = .ok (.aload_n 0, 1) := by decide +kernel
theorem dX10_common_39 : decode cX10_common 39 = .ok (.iconst 1, 1) := by decide +kernel
theorem dX10_common_40 : decode cX10_common 40 = .ok (.invokevirtual 99, 3) := by decide +kernel
theorem dX10_common_43 : decode cX10_common 43 = .ok (.ireturn, 1) := by decide +kernel
theorem dX10_common_44 : decode cX10_common 44 = .ok (.aload_n 0, 1) := by decide +kernel
theorem dX10_common_45 : decode cX10_common 45 = .ok (.iload_n 1, 1) := by decide +kernel
theorem dX10_common_46 : decode cX10_common 46 = .ok (.invokevirtual 151, 3) := by decide +kernel
theorem dX10_common_49 : decode cX10_common 49 = .ok (.ifCond .ne 5, 3) := by decide +kernel
theorem dX10_common_52 : decode cX10_common 52 = .ok (.iconst (-1), 1) := by decide +kernel
theorem dX10_common_53 : decode cX10_common 53 = .ok (.ireturn, 1) := by decide +kernel
theorem dX10_common_54 : decode cX10_common 54 = .ok (.iconst 0, 1) := by decide +kernel
theorem dX10_common_55 : decode cX10_common 55 = .ok (.istore_n 3, 1) := by decide +kernel
theorem dX10_common_56 : decode cX10_common 56 = .ok (.iconst 0, 1) := by decide +kernel
theorem dX10_common_57 : decode cX10_common 57 = .ok (.istore 4, 2) := by decide +kernel
theorem dX10_common_59 : decode cX10_common 59 = .ok (.iconst 0, 1) := by decide +kernel
theorem dX10_common_60 : decode cX10_common 60 = .ok (.istore 5, 2) := by decide +kernel
theorem dX10_common_62 : decode cX10_common 62 = .ok (.iload 5, 2) := by decide +kernel
theorem dX10_common_64 : decode cX10_common 64 = .ok (.bipush 10, 2) := by decide +kernel
theorem dX10_common_66 : decode cX10_common 66 = .ok (.if_icmp .ge 88, 3) := by decide +kernel
theorem dX10_common_69 : decode cX10_common 69 = .ok (.aload_n 0, 1) := by decide +kernel
theorem dX10_common_70 : decode cX10_common 70 = .ok (.iconst 0, 1) := by decide +kernel
theorem dX10_common_71 : decode cX10_common 71 = .ok (.iload_n 1, 1) := by decide +kernel
theorem dX10_common_72 : decode cX10_common 72 = .ok (.iload 5, 2) := by decide +kernel
theorem dX10_common_74 : decode cX10_common 74 = .ok (.invokevirtual 154, 3) := by decide +kernel
theorem dX10_common_77 : decode cX10_common 77 = .ok (.iload_n 2, 1) := by decide +kernel
theorem dX10_common_78 : decode cX10_common 78 = .ok (.if_icmp .lt 7, 3) := by decide +kernel
theorem dX10_common_81 : decode cX10_common 81 = .ok (.iconst 1, 1) := by decide +kernel
theorem dX10_common_82 : decode cX10_common 82 = .ok (.goto 4, 3) := by decide +kernel
theorem dX10_common_85 : decode cX10_common 85 = .ok (.iconst 0, 1) := by decide +kernel
theorem dX10_common_86 : decode cX10_common 86 = .ok (.istore 6, 2) := by decide +kernel
theorem dX10_common_88 : decode cX10_common 88 = .ok (.aload_n 0, 1) := by decide +kernel
theorem dX10_common_89 : decode cX10_common 89 = .ok (.iconst 1, 1) := by decide +kernel
theorem dX10_common_90 : decode cX10_common 90 = .ok (.iload_n 1, 1) := by decide +kernel
theorem dX10_common_91 : decode cX10_common 91 = .ok (.iload 5, 2) := by decide +kernel
theorem dX10_common_93 : decode cX10_common 93 = .ok (.invokevirtual 154, 3) := by decide +kernel
theorem dX10_common_96 : decode cX10_common 96 = .ok (.iload_n 2, 1) := by decide +kernel
theorem dX10_common_97 : decode cX10_common 97 = .ok (.if_icmp .lt 7, 3) := by decide +kernel
theorem dX10_common_100 : decode cX10_common 100 = .ok (.iconst 1, 1) := by decide +kernel
theorem dX10_common_101 : decode cX10_common 101 = .ok (.goto 4, 3) := by decide +kernel
theorem dX10_common_104 : decode cX10_common 104 = .ok (.iconst 0, 1) := by decide +kernel
theorem dX10_common_105 : decode cX10_common 105 = .ok (.istore 7, 2) := by decide +kernel
theorem dX10_common_107 : decode cX10_common 107 = .ok (.iload_n 3, 1) := by decide +kernel
theorem dX10_common_108 : decode cX10_common 108 = .ok (.iload 6, 2) := by decide +kernel
theorem dX10_common_110 : decode cX10_common 110 = .ok (.ifCond .eq 15, 3) := by decide +kernel
theorem dX10_common_113 : decode cX10_common 113 = .ok (.iload 7, 2) := by decide +kernel
theorem dX10_common_115 : decode cX10_common 115 = .ok (.ifCond .eq 10, 3) := by decide +kernel
theorem dX10_common_118 : decode cX10_common 118 = .ok (.iconst 1, 1) := by decide +kernel
theorem dX10_common_119 : decode cX10_common 119 = .ok (.iload 5, 2) := by decide +kernel
theorem dX10_common_121 : decode cX10_common 121 = .ok (.ishl, 1) := by decide +kernel
theorem dX10_common_122 : decode cX10_common 122 = .ok (.goto 4, 3) := by decide +kernel
theorem dX10_common_125 : decode cX10_common 125 = .ok (.iconst 0, 1) := by decide +kernel
theorem dX10_common_126 : decode cX10_common 126 = .ok (.ior, 1) := by decide +kernel
theorem dX10_common_127 : decode cX10_common 127 = .ok (.istore_n 3, 1) := by decide +kernel
theorem dX10_common_128 : decode cX10_common 128 = .ok (.iload 4, 2) := by decide +kernel
theorem dX10_common_130 : decode cX10_common 130 = .ok (.iload 6, 2) := by decide +kernel
theorem dX10_common_132 : decode cX10_common 132 = .ok (.iload 7, 2) := by decide +kernel
theorem dX10_common_134 : decode cX10_common 134 = .ok (.if_icmp .eq 10, 3) := by decide +kernel
theorem dX10_common_137 : decode cX10_common 137 = .ok (.iconst 1, 1) := by decide +kernel
theorem dX10_common_138 : decode cX10_common 138 = .ok (.iload 5, 2) := by decide +kernel
theorem dX10_common_140 : decode cX10_common 140 = .ok (.ishl, 1) := by decide +kernel
theorem dX10_common_141 : decode cX10_common 141 = .ok (.goto 4, 3) := by decide +kernel
theorem dX10_common_144 : decode cX10_common 144 = .ok (.iconst 0, 1) := by decide +kernel
theorem dX10_common_145 : decode cX10_common 145 = .ok (.ior, 1) := by decide +kernel
theorem dX10_common_146 : decode cX10_common 146 = .ok (.istore 4, 2) := by decide +kernel
theorem dX10_common_148 : decode cX10_common 148 = .ok (.iinc 5 1, 3) := by decide +kernel
theorem dX10_common_151 : decode cX10_common 151 = .ok (.goto (-89), 3) := by decide +kernel
theorem dX10_common_154 : decode cX10_common 154 = .ok (.aload_n 0, 1) := by decide +kernel
theorem dX10_common_155 : decode cX10_common 155 = .ok (.iload 4, 2) := by decide +kernel
theorem dX10_common_157 : decode cX10_common 157 = .ok (.iload_n 3, 1) := by decide +kernel
theorem dX10_common_158 : decode cX10_common 158 = .ok (.invokevirtual 117, 3) := by decide +kernel
theorem dX10_common_161 : decode cX10_common 161 = .ok (.ireturn, 1) := by decide +kernel
theorem dX10_land_0 : decode cX10_land 0 = .ok (.iload_n 1, 1) := by decide +kernel
theorem dX10_land_1 : decode cX10_land 1 = .ok (.invokestatic 95, 3) := by decide +kernel
theorem dX10_land_4 : decode cX10_land 4 = .ok (.ifCond .ne 5, 3) := by decide +kernel
theorem dX10_land_7 : decode cX10_land 7 = .ok (.iconst (-1), 1) := by decide +kernel
theorem dX10_land_8 : decode cX10_land 8 = .ok (.ireturn, 1) := by decide +kernel
theorem dX10_land_9 : decode cX10_land 9 = .ok (.aload_n 0, 1) := by decide +kernel
theorem dX10_land_10 : decode cX10_land 10 = .ok (.getfield 17, 3) := by decide +kernel
theorem dX10_land_13 : decode cX10_land 13 = .ok (.iload_n 1, 1) := by decide +kernel
theorem dX10_land_14 : decode cX10_land 14 = .ok (.iaload, 1) := by decide +kernel
theorem dX10_land_15 : decode cX10_land 15 = .ok (.ifCond .lt 19, 3) := by decide +kernel
theorem dX10_land_18 : decode cX10_land 18 = .ok (.aload_n 0, 1) := by decide +kernel
theorem dX10_land_19 : decode cX10_land 19 = .ok (.iconst 0, 1) := by decide +kernel
theorem dX10_land_20 : decode cX10_land 20 = .ok (.invokevirtual 148, 3) := by decide +kernel
theorem dX10_land_23 : decode cX10_land 23 = .ok (.ifCond .eq 11, 3) := by decide +kernel
theorem dX10_land_26 : decode cX10_land 26 = .ok (.aload_n 0, 1) := by decide +kernel
theorem dX10_land_27 : decode cX10_land 27 = .ok (.iconst 1, 1) := by decide +kernel
theorem dX10_land_28 : decode cX10_land 28 = .ok (.invokevirtual 148, 3) := by decide +kernel
theorem dX10_land_31 : decode cX10_land 31 = .ok (.ifCond .ne 9, 3) := by decide +kernel
theorem dX10_land_34 : decode cX10_land 34 = .ok (.aload_n 0, 1) := by decide +kernel
theorem dX10_land_35 : decode cX10_land 35 = .ok (.iconst 1, 1) := by decide +kernel
theorem dX10_land_36 : decode cX10_land 36 = .ok (.invokevirtual 99, 3) := by decide +kernel
theorem dX10_land_39 : decode cX10_land 39 = .ok (.ireturn, 1) := by decide +kernel
theorem dX10_land_40 : decode cX10_land 40 = .ok (.aload_n 0, 1) := by decide +kernel
theorem dX10_land_41 : decode cX10_land 41 = .ok (.iload_n 1, 1) := by decide +kernel
theorem dX10_land_42 : decode cX10_land 42 = .ok (.invokevirtual 212, 3) := by decide +kernel
theorem dX10_land_45 : decode cX10_land 45 = .ok (.istore_n 2, 1) := by decide +kernel
theorem dX10_land_46 : decode cX10_land 46 = .ok (.iload_n 2, 1) := by decide +kernel
theorem dX10_land_47 : decode cX10_land 47 = .ok (.ifCond .ge 5, 3) := by decide +kernel
theorem dX10_land_50 : decode cX10_land 50 = .ok (.iload_n 2, 1) := by decide +kernel
theorem dX10_land_51 : decode cX10_land 51 = .ok (.ireturn, 1) := by decide +kernel
theorem dX10_land_52 : decode cX10_land 52 = .ok (.iconst 0, 1) := by decide +kernel
theorem dX10_land_53 : decode cX10_land 53 = .ok (.istore_n 3, 1) := by decide +kernel
theorem dX10_land_54 : decode cX10_land 54 = .ok (.iconst 0, 1) := by decide +kernel
theorem dX10_land_55 : decode cX10_land 55 = .ok (.istore 4, 2) := by decide +kernel
theorem dX10_land_57 : decode cX10_land 57 = .ok (.iconst 0, 1) := by decide +kernel
theorem dX10_land_58 : decode cX10_land 58 = .ok (.istore 5, 2) := by decide +kernel
theorem dX10_land_60 : decode cX10_land 60 = .ok (.iload 5, 2) := by decide +kernel
theorem dX10_land_62 : decode cX10_land 62 = .ok (.aload_n 0, 1) := by decide +kernel
theorem dX10_land_63 : decode cX10_land 63 = .ok (.getfield 17, 3) := by decide +kernel
theorem dX10_land_66 : decode cX10_land 66 = .ok (.iload_n 1, 1) := by decide +kernel
theorem dX10_land_67 : decode cX10_land 67 = .ok (.iaload, 1) := by decide +kernel
theorem dX10_land_68 : decode cX10_land 68 = .ok (.if_icmp .ge 63, 3) := by decide +kernel
theorem dX10_land_71 : decode cX10_land 71 = .ok (.iconst 0, 1) := by decide +kernel
theorem dX10_land_72 : decode cX10_land 72 = .ok (.istore 6, 2) := by decide +kernel
theorem dX10_land_74 : decode cX10_land 74 = .ok (.iload 6, 2) := by decide +kernel
theorem dX10_land_76 : decode cX10_land 76 = .ok (.aload_n 0, 1) := by decide +kernel
theorem dX10_land_77 : decode cX10_land 77 = .ok (.invokevirtual 144, 3) := by decide +kernel
theorem dX10_land_80 : decode cX10_land 80 = .ok (.if_icmp .ge 45, 3) := by decide +kernel
theorem dX10_land_83 : decode cX10_land 83 = .ok (.iload_n 3, 1) := by decide +kernel
theorem dX10_land_84 : decode cX10_land 84 = .ok (.aload_n 0, 1) := by decide +kernel
theorem dX10_land_85 : decode cX10_land 85 = .ok (.iconst 0, 1) := by decide +kernel
theorem dX10_land_86 : decode cX10_land 86 = .ok (.iload 6, 2) := by decide +kernel
theorem dX10_land_88 : decode cX10_land 88 = .ok (.aload_n 0, 1) := by decide +kernel
theorem dX10_land_89 : decode cX10_land 89 = .ok (.iload_n 1, 1) := by decide +kernel
theorem dX10_land_90 : decode cX10_land 90 = .ok (.iload 5, 2) := by decide +kernel
theorem dX10_land_92 : decode cX10_land 92 = .ok (.invokevirtual 113, 3) := by decide +kernel
theorem dX10_land_95 : decode cX10_land 95 = .ok (.invokevirtual 154, 3) := by decide +kernel
theorem dX10_land_98 : decode cX10_land 98 = .ok (.iadd, 1) := by decide +kernel
theorem dX10_land_99 : decode cX10_land 99 = .ok (.istore_n 3, 1) := by decide +kernel
theorem dX10_land_100 : decode cX10_land 100 = .ok (.iload 4, 2) := by decide +kernel
theorem dX10_land_102 : decode cX10_land 102 = .ok (.aload_n 0, 1) := by decide +kernel
theorem dX10_land_103 : decode cX10_land 103 = .ok (.iconst 1, 1) := by decide +kernel
theorem dX10_land_104 : decode cX10_land 104 = .ok (.iload 6, 2) := by decide +kernel
theorem dX10_land_106 : decode cX10_land 106 = .ok (.aload_n 0, 1) := by decide +kernel
theorem dX10_land_107 : decode cX10_land 107 = .ok (.iload_n 1, 1) := by decide +kernel
theorem dX10_land_108 : decode cX10_land 108 = .ok (.iload 5, 2) := by decide +kernel
theorem dX10_land_110 : decode cX10_land 110 = .ok (.invokevirtual 113, 3) := by decide +kernel
theorem dX10_land_113 : decode cX10_land 113 = .ok (.invokevirtual 154, 3) := by decide +kernel
theorem dX10_land_116 : decode cX10_land 116 = .ok (.iadd, 1) := by decide +kernel
theorem dX10_land_117 : decode cX10_land 117 = .ok (.istore 4, 2) := by decide +kernel
theorem dX10_land_119 : decode cX10_land 119 = .ok (.iinc 6 1, 3) := by decide +kernel
theorem dX10_land_122 : decode cX10_land 122 = .ok (.goto (-48), 3) := by decide +kernel
theorem dX10_land_125 : decode cX10_land 125 = .ok (.iinc 5 1, 3) := by decide +kernel
theorem dX10_land_128 : decode cX10_land 128 = .ok (.goto (-68), 3) := by decide +kernel
theorem dX10_land_131 : decode cX10_land 131 = .ok (.iload_n 3, 1) := by decide +kernel
theorem dX10_land_132 : decode cX10_land 132 = .ok (.iload 4, 2) := by decide +kernel
theorem dX10_land_134 : decode cX10_land 134 = .ok (.iadd, 1) := by decide +kernel
theorem dX10_land_135 : decode cX10_land 135 = .ok (.ifCond .ne 11, 3) := by decide +kernel
theorem dX10_land_138 : decode cX10_land 138 = .ok (.aload_n 0, 1) := by decide +kernel
theorem dX10_land_139 : decode cX10_land 139 = .ok (.iconst 4, 1) := by decide +kernel
theorem dX10_land_140 : decode cX10_land 140 = .ok (.invokevirtual 99, 3) := by decide +kernel
theorem dX10_land_143 : decode cX10_land 143 = .ok (.goto 15, 3) := by decide +kernel
theorem dX10_land_146 : decode cX10_land 146 = .ok (.aload_n 0, 1) := by decide +kernel
theorem dX10_land_147 : decode cX10_land 147 = .ok (.iload_n 3, 1) := by decide +kernel
theorem dX10_land_148 : decode cX10_land 148 = .ok (.i2l, 1) := by decide +kernel
theorem dX10_land_149 : decode cX10_land 149 = .ok (.iload_n 3, 1) := by decide +kernel
theorem dX10_land_150 : decode cX10_land 150 = .ok (.iload 4, 2) := by decide +kernel
theorem dX10_land_152 : decode cX10_land 152 = .ok (.iadd, 1) := by decide +kernel
theorem dX10_land_153 : decode cX10_land 153 = .ok (.i2l, 1) := by decide +kernel
theorem dX10_land_154 : decode cX10_land 154 = .ok (.iconst 1, 1) := by decide +kernel
theorem dX10_land_155 : decode cX10_land 155 = .ok (.invokevirtual 248, 3) := by decide +kernel
theorem dX10_land_158 : decode cX10_land 158 = .ok (.ireturn, 1) := by decide +kernel
theorem dX10_leafTells_0 : decode cX10_leafTells 0 = .ok (.aload_n 0, 1) := by decide +kernel
theorem dX10_leafTells_1 : decode cX10_leafTells 1 = .ok (.getfield 78, 3) := by decide +kernel
theorem dX10_leafTells_4 : decode cX10_leafTells 4 = .ok (.bipush 12, 2) := by decide +kernel
theorem dX10_leafTells_6 : decode cX10_leafTells 6 = .ok (.iload_n 1, 1) := by decide +kernel
theorem dX10_leafTells_7 : decode cX10_leafTells 7 = .ok (.imul, 1) := by decide +kernel
theorem dX10_leafTells_8 : decode cX10_leafTells 8 = .ok (.iload_n 2, 1) := by decide +kernel
theorem dX10_leafTells_9 : decode cX10_leafTells 9 = .ok (.iadd, 1) := by decide +kernel
theorem dX10_leafTells_10 : decode cX10_leafTells 10 = .ok (.iaload, 1) := by decide +kernel
theorem dX10_leafTells_11 : decode cX10_leafTells 11 = .ok (.ireturn, 1) := by decide +kernel
theorem dX10_newLeaf_0 : decode cX10_newLeaf 0 = .ok (.bipush 12, 2) := by decide +kernel
theorem dX10_newLeaf_2 : decode cX10_newLeaf 2 = .ok (.aload_n 0, 1) := by decide +kernel
theorem dX10_newLeaf_3 : decode cX10_newLeaf 3 = .ok (.getfield 141, 3) := by decide +kernel
theorem dX10_newLeaf_6 : decode cX10_newLeaf 6 = .ok (.imul, 1) := by decide +kernel
theorem dX10_newLeaf_7 : decode cX10_newLeaf 7 = .ok (.istore 6, 2) := by decide +kernel
theorem dX10_newLeaf_9 : decode cX10_newLeaf 9 = .ok (.aload_n 0, 1) := by decide +kernel
theorem dX10_newLeaf_10 : decode cX10_newLeaf 10 = .ok (.getfield 78, 3) := by decide +kernel
theorem dX10_newLeaf_13 : decode cX10_newLeaf 13 = .ok (.iload 6, 2) := by decide +kernel
theorem dX10_newLeaf_15 : decode cX10_newLeaf 15 = .ok (.iload_n 1, 1) := by decide +kernel
theorem dX10_newLeaf_16 : decode cX10_newLeaf 16 = .ok (.iastore, 1) := by decide +kernel
theorem dX10_newLeaf_17 : decode cX10_newLeaf 17 = .ok (.aload_n 0, 1) := by decide +kernel
theorem dX10_newLeaf_18 : decode cX10_newLeaf 18 = .ok (.getfield 78, 3) := by decide +kernel
theorem dX10_newLeaf_21 : decode cX10_newLeaf 21 = .ok (.iload 6, 2) := by decide +kernel
theorem dX10_newLeaf_23 : decode cX10_newLeaf 23 = .ok (.iconst 1, 1) := by decide +kernel
theorem dX10_newLeaf_24 : decode cX10_newLeaf 24 = .ok (.iadd, 1) := by decide +kernel
theorem dX10_newLeaf_25 : decode cX10_newLeaf 25 = .ok (.iload_n 2, 1) := by decide +kernel
theorem dX10_newLeaf_26 : decode cX10_newLeaf 26 = .ok (.iastore, 1) := by decide +kernel
theorem dX10_newLeaf_27 : decode cX10_newLeaf 27 = .ok (.aload_n 0, 1) := by decide +kernel
theorem dX10_newLeaf_28 : decode cX10_newLeaf 28 = .ok (.getfield 78, 3) := by decide +kernel
theorem dX10_newLeaf_31 : decode cX10_newLeaf 31 = .ok (.iload 6, 2) := by decide +kernel
theorem dX10_newLeaf_33 : decode cX10_newLeaf 33 = .ok (.iconst 2, 1) := by decide +kernel
theorem dX10_newLeaf_34 : decode cX10_newLeaf 34 = .ok (.iadd, 1) := by decide +kernel
theorem dX10_newLeaf_35 : decode cX10_newLeaf 35 = .ok (.iload_n 3, 1) := by decide +kernel
theorem dX10_newLeaf_36 : decode cX10_newLeaf 36 = .ok (.iastore, 1) := by decide +kernel
theorem dX10_newLeaf_37 : decode cX10_newLeaf 37 = .ok (.aload_n 0, 1) := by decide +kernel
theorem dX10_newLeaf_38 : decode cX10_newLeaf 38 = .ok (.getfield 78, 3) := by decide +kernel
theorem dX10_newLeaf_41 : decode cX10_newLeaf 41 = .ok (.iload 6, 2) := by decide +kernel
theorem dX10_newLeaf_43 : decode cX10_newLeaf 43 = .ok (.iconst 3, 1) := by decide +kernel
theorem dX10_newLeaf_44 : decode cX10_newLeaf 44 = .ok (.iadd, 1) := by decide +kernel
theorem dX10_newLeaf_45 : decode cX10_newLeaf 45 = .ok (.aload_n 0, 1) := by decide +kernel
theorem dX10_newLeaf_46 : decode cX10_newLeaf 46 = .ok (.iload 4, 2) := by decide +kernel
theorem dX10_newLeaf_48 : decode cX10_newLeaf 48 = .ok (.invokevirtual 297, 3) := by decide +kernel
theorem dX10_newLeaf_51 : decode cX10_newLeaf 51 = .ok (.iastore, 1) := by decide +kernel
theorem dX10_newLeaf_52 : decode cX10_newLeaf 52 = .ok (.aload_n 0, 1) := by decide +kernel
theorem dX10_newLeaf_53 : decode cX10_newLeaf 53 = .ok (.getfield 78, 3) := by decide +kernel
theorem dX10_newLeaf_56 : decode cX10_newLeaf 56 = .ok (.iload 6, 2) := by decide +kernel
theorem dX10_newLeaf_58 : decode cX10_newLeaf 58 = .ok (.iconst 4, 1) := by decide +kernel
theorem dX10_newLeaf_59 : decode cX10_newLeaf 59 = .ok (.iadd, 1) := by decide +kernel
theorem dX10_newLeaf_60 : decode cX10_newLeaf 60 = .ok (.iload 5, 2) := by decide +kernel
theorem dX10_newLeaf_62 : decode cX10_newLeaf 62 = .ok (.iastore, 1) := by decide +kernel
theorem dX10_newLeaf_63 : decode cX10_newLeaf 63 = .ok (.aload_n 0, 1) := by decide +kernel
theorem dX10_newLeaf_64 : decode cX10_newLeaf 64 = .ok (.getfield 78, 3) := by decide +kernel
theorem dX10_newLeaf_67 : decode cX10_newLeaf 67 = .ok (.iload 6, 2) := by decide +kernel
theorem dX10_newLeaf_69 : decode cX10_newLeaf 69 = .ok (.iconst 5, 1) := by decide +kernel
theorem dX10_newLeaf_70 : decode cX10_newLeaf 70 = .ok (.iadd, 1) := by decide +kernel
theorem dX10_newLeaf_71 : decode cX10_newLeaf 71 = .ok (.aload_n 0, 1) := by decide +kernel
theorem dX10_newLeaf_72 : decode cX10_newLeaf 72 = .ok (.getfield 17, 3) := by decide +kernel
theorem dX10_newLeaf_75 : decode cX10_newLeaf 75 = .ok (.iload 4, 2) := by decide +kernel
theorem dX10_newLeaf_77 : decode cX10_newLeaf 77 = .ok (.iaload, 1) := by decide +kernel
theorem dX10_newLeaf_78 : decode cX10_newLeaf 78 = .ok (.iastore, 1) := by decide +kernel
theorem dX10_newLeaf_79 : decode cX10_newLeaf 79 = .ok (.iconst 0, 1) := by decide +kernel
theorem dX10_newLeaf_80 : decode cX10_newLeaf 80 = .ok (.istore 7, 2) := by decide +kernel
theorem dX10_newLeaf_82 : decode cX10_newLeaf 82 = .ok (.iload 7, 2) := by decide +kernel
theorem dX10_newLeaf_84 : decode cX10_newLeaf 84 = .ok (.aload_n 0, 1) := by decide +kernel
theorem dX10_newLeaf_85 : decode cX10_newLeaf 85 = .ok (.getfield 17, 3) := by decide +kernel
theorem dX10_newLeaf_88 : decode cX10_newLeaf 88 = .ok (.iload 4, 2) := by decide +kernel
theorem dX10_newLeaf_90 : decode cX10_newLeaf 90 = .ok (.iaload, 1) := by decide +kernel
theorem dX10_newLeaf_91 : decode cX10_newLeaf 91 = .ok (.if_icmp .ge 30, 3) := by decide +kernel
theorem dX10_newLeaf_94 : decode cX10_newLeaf 94 = .ok (.aload_n 0, 1) := by decide +kernel
theorem dX10_newLeaf_95 : decode cX10_newLeaf 95 = .ok (.getfield 78, 3) := by decide +kernel
theorem dX10_newLeaf_98 : decode cX10_newLeaf 98 = .ok (.iload 6, 2) := by decide +kernel
theorem dX10_newLeaf_100 : decode cX10_newLeaf 100 = .ok (.bipush 6, 2) := by decide +kernel
theorem dX10_newLeaf_102 : decode cX10_newLeaf 102 = .ok (.iadd, 1) := by decide +kernel
theorem dX10_newLeaf_103 : decode cX10_newLeaf 103 = .ok (.iload 7, 2) := by decide +kernel
theorem dX10_newLeaf_105 : decode cX10_newLeaf 105 = .ok (.iadd, 1) := by decide +kernel
theorem dX10_newLeaf_106 : decode cX10_newLeaf 106 = .ok (.aload_n 0, 1) := by decide +kernel
theorem dX10_newLeaf_107 : decode cX10_newLeaf 107 = .ok (.iload 4, 2) := by decide +kernel
theorem dX10_newLeaf_109 : decode cX10_newLeaf 109 = .ok (.iload 7, 2) := by decide +kernel
theorem dX10_newLeaf_111 : decode cX10_newLeaf 111 = .ok (.invokevirtual 113, 3) := by decide +kernel
theorem dX10_newLeaf_114 : decode cX10_newLeaf 114 = .ok (.iastore, 1) := by decide +kernel
theorem dX10_newLeaf_115 : decode cX10_newLeaf 115 = .ok (.iinc 7 1, 3) := by decide +kernel
theorem dX10_newLeaf_118 : decode cX10_newLeaf 118 = .ok (.goto (-36), 3) := by decide +kernel
theorem dX10_newLeaf_121 : decode cX10_newLeaf 121 = .ok (.aload_n 0, 1) := by decide +kernel
theorem dX10_newLeaf_122 : decode cX10_newLeaf 122 = .ok (.dup, 1) := by decide +kernel
theorem dX10_newLeaf_123 : decode cX10_newLeaf 123 = .ok (.getfield 141, 3) := by decide +kernel
theorem dX10_newLeaf_126 : decode cX10_newLeaf 126 = .ok (.iconst 1, 1) := by decide +kernel
theorem dX10_newLeaf_127 : decode cX10_newLeaf 127 = .ok (.iadd, 1) := by decide +kernel
theorem dX10_newLeaf_128 : decode cX10_newLeaf 128 = .ok (.putfield 141, 3) := by decide +kernel
theorem dX10_newLeaf_131 : decode cX10_newLeaf 131 = .ok (.aload_n 0, 1) := by decide +kernel
theorem dX10_newLeaf_132 : decode cX10_newLeaf 132 = .ok (.getfield 141, 3) := by decide +kernel
theorem dX10_newLeaf_135 : decode cX10_newLeaf 135 = .ok (.iconst 1, 1) := by decide +kernel
theorem dX10_newLeaf_136 : decode cX10_newLeaf 136 = .ok (.isub, 1) := by decide +kernel
theorem dX10_newLeaf_137 : decode cX10_newLeaf 137 = .ok (.ireturn, 1) := by decide +kernel
theorem dX10_leaf_0 : decode cX10_leaf 0 = .ok (.aload_n 0, 1) := by decide +kernel
theorem dX10_leaf_1 : decode cX10_leaf 1 = .ok (.iload_n 1, 1) := by decide +kernel
theorem dX10_leaf_2 : decode cX10_leaf 2 = .ok (.invokevirtual 162, 3) := by decide +kernel
theorem dX10_leaf_5 : decode cX10_leaf 5 = .ok (.ifCond .eq 18, 3) := by decide +kernel
theorem dX10_leaf_8 : decode cX10_leaf 8 = .ok (.aload_n 0, 1) := by decide +kernel
theorem dX10_leaf_9 : decode cX10_leaf 9 = .ok (.iload_n 2, 1) := by decide +kernel
theorem dX10_leaf_10 : decode cX10_leaf 10 = .ok (.invokevirtual 151, 3) := by decide +kernel
theorem dX10_leaf_13 : decode cX10_leaf 13 = .ok (.ifCond .eq 10, 3) := by decide +kernel
theorem dX10_leaf_16 : decode cX10_leaf 16 = .ok (.iload_n 3, 1) := by decide +kernel
theorem dX10_leaf_17 : decode cX10_leaf 17 = .ok (.invokestatic 95, 3) := by decide +kernel
theorem dX10_leaf_20 : decode cX10_leaf 20 = .ok (.ifCond .ne 5, 3) := by decide +kernel
theorem dX10_leaf_23 : decode cX10_leaf 23 = .ok (.iconst (-1), 1) := by decide +kernel
theorem dX10_leaf_24 : decode cX10_leaf 24 = .ok (.ireturn, 1) := by decide +kernel
theorem dX10_leaf_25 : decode cX10_leaf 25 = .ok (.aload_n 0, 1) := by decide +kernel
theorem dX10_leaf_26 : decode cX10_leaf 26 = .ok (.iload_n 3, 1) := by decide +kernel
theorem dX10_leaf_27 : decode cX10_leaf 27 = .ok (.invokevirtual 212, 3) := by decide +kernel
theorem dX10_leaf_30 : decode cX10_leaf 30 = .ok (.istore 4, 2) := by decide +kernel
theorem dX10_leaf_32 : decode cX10_leaf 32 = .ok (.iload 4, 2) := by decide +kernel
theorem dX10_leaf_34 : decode cX10_leaf 34 = .ok (.ifCond .ge 6, 3) := by decide +kernel
theorem dX10_leaf_37 : decode cX10_leaf 37 = .ok (.iload 4, 2) := by decide +kernel
theorem dX10_leaf_39 : decode cX10_leaf 39 = .ok (.ireturn, 1) := by decide +kernel
theorem dX10_leaf_40 : decode cX10_leaf 40 = .ok (.aload_n 0, 1) := by decide +kernel
theorem dX10_leaf_41 : decode cX10_leaf 41 = .ok (.getfield 141, 3) := by decide +kernel
theorem dX10_leaf_44 : decode cX10_leaf 44 = .ok (.bipush 12, 2) := by decide +kernel
theorem dX10_leaf_46 : decode cX10_leaf 46 = .ok (.if_icmp .ne 8, 3) := by decide +kernel
theorem dX10_leaf_49 : decode cX10_leaf 49 = .ok (.bipush (-2), 2) := by decide +kernel
theorem dX10_leaf_51 : decode cX10_leaf 51 = .ok (.goto 13, 3) := by decide +kernel
theorem dX10_leaf_54 : decode cX10_leaf 54 = .ok (.aload_n 0, 1) := by decide +kernel
theorem dX10_leaf_55 : decode cX10_leaf 55 = .ok (.iconst 0, 1) := by decide +kernel
theorem dX10_leaf_56 : decode cX10_leaf 56 = .ok (.iload_n 1, 1) := by decide +kernel
theorem dX10_leaf_57 : decode cX10_leaf 57 = .ok (.iload_n 2, 1) := by decide +kernel
theorem dX10_leaf_58 : decode cX10_leaf 58 = .ok (.iload_n 3, 1) := by decide +kernel
theorem dX10_leaf_59 : decode cX10_leaf 59 = .ok (.bipush (-9), 2) := by decide +kernel
theorem dX10_leaf_61 : decode cX10_leaf 61 = .ok (.invokevirtual 300, 3) := by decide +kernel
theorem dX10_leaf_64 : decode cX10_leaf 64 = .ok (.ireturn, 1) := by decide +kernel
theorem dX10_guessed_0 : decode cX10_guessed 0 = .ok (.aload_n 0, 1) := by decide +kernel
theorem dX10_guessed_1 : decode cX10_guessed 1 = .ok (.iload_n 1, 1) := by decide +kernel
theorem dX10_guessed_2 : decode cX10_guessed 2 = .ok (.invokevirtual 162, 3) := by decide +kernel
theorem dX10_guessed_5 : decode cX10_guessed 5 = .ok (.ifCond .eq 27, 3) := by decide +kernel
theorem dX10_guessed_8 : decode cX10_guessed 8 = .ok (.iload_n 2, 1) := by decide +kernel
theorem dX10_guessed_9 : decode cX10_guessed 9 = .ok (.invokestatic 95, 3) := by decide +kernel
theorem dX10_guessed_12 : decode cX10_guessed 12 = .ok (.ifCond .eq 20, 3) := by decide +kernel
theorem dX10_guessed_15 : decode cX10_guessed 15 = .ok (.aload_n 0, 1) := by decide +kernel
theorem dX10_guessed_16 : decode cX10_guessed 16 = .ok (.iload_n 3, 1) := by decide +kernel
theorem dX10_guessed_17 : decode cX10_guessed 17 = .ok (.invokevirtual 209, 3) := by decide +kernel
theorem dX10_guessed_20 : decode cX10_guessed 20 = .ok (.ifCond .eq 12, 3) := by decide +kernel
theorem dX10_guessed_23 : decode cX10_guessed 23 = .ok (.aload_n 0, 1) := by decide +kernel
theorem dX10_guessed_24 : decode cX10_guessed 24 = .ok (.iload 4, 2) := by decide +kernel
theorem dX10_guessed_26 : decode cX10_guessed 26 = .ok (.invokevirtual 151, 3) := by decide +kernel
theorem dX10_guessed_29 : decode cX10_guessed 29 = .ok (.ifCond .ne 5, 3) := by decide +kernel
theorem dX10_guessed_32 : decode cX10_guessed 32 = .ok (.iconst (-1), 1) := by decide +kernel
theorem dX10_guessed_33 : decode cX10_guessed 33 = .ok (.ireturn, 1) := by decide +kernel
theorem dX10_guessed_34 : decode cX10_guessed 34 = .ok (.aload_n 0, 1) := by decide +kernel
theorem dX10_guessed_35 : decode cX10_guessed 35 = .ok (.iload_n 2, 1) := by decide +kernel
theorem dX10_guessed_36 : decode cX10_guessed 36 = .ok (.invokevirtual 212, 3) := by decide +kernel
theorem dX10_guessed_39 : decode cX10_guessed 39 = .ok (.istore 5, 2) := by decide +kernel
theorem dX10_guessed_41 : decode cX10_guessed 41 = .ok (.iload 5, 2) := by decide +kernel
theorem dX10_guessed_43 : decode cX10_guessed 43 = .ok (.ifCond .ge 6, 3) := by decide +kernel
theorem dX10_guessed_46 : decode cX10_guessed 46 = .ok (.iload 5, 2) := by decide +kernel
theorem dX10_guessed_48 : decode cX10_guessed 48 = .ok (.ireturn, 1) := by decide +kernel
theorem dX10_guessed_49 : decode cX10_guessed 49 = .ok (.aload_n 0, 1) := by decide +kernel
theorem dX10_guessed_50 : decode cX10_guessed 50 = .ok (.getfield 141, 3) := by decide +kernel
theorem dX10_guessed_53 : decode cX10_guessed 53 = .ok (.bipush 12, 2) := by decide +kernel
theorem dX10_guessed_55 : decode cX10_guessed 55 = .ok (.if_icmp .ne 8, 3) := by decide +kernel
theorem dX10_guessed_58 : decode cX10_guessed 58 = .ok (.bipush (-2), 2) := by decide +kernel
theorem dX10_guessed_60 : decode cX10_guessed 60 = .ok (.goto 13, 3) := by decide +kernel
theorem dX10_guessed_63 : decode cX10_guessed 63 = .ok (.aload_n 0, 1) := by decide +kernel
theorem dX10_guessed_64 : decode cX10_guessed 64 = .ok (.iconst 1, 1) := by decide +kernel
theorem dX10_guessed_65 : decode cX10_guessed 65 = .ok (.iload_n 1, 1) := by decide +kernel
theorem dX10_guessed_66 : decode cX10_guessed 66 = .ok (.iload 4, 2) := by decide +kernel
theorem dX10_guessed_68 : decode cX10_guessed 68 = .ok (.iload_n 2, 1) := by decide +kernel
theorem dX10_guessed_69 : decode cX10_guessed 69 = .ok (.iload_n 3, 1) := by decide +kernel
theorem dX10_guessed_70 : decode cX10_guessed 70 = .ok (.invokevirtual 300, 3) := by decide +kernel
theorem dX10_guessed_73 : decode cX10_guessed 73 = .ok (.ireturn, 1) := by decide +kernel
theorem dX10_told_0 : decode cX10_told 0 = .ok (.iload_n 1, 1) := by decide +kernel
theorem dX10_told_1 : decode cX10_told 1 = .ok (.iconst 0, 1) := by decide +kernel
theorem dX10_told_2 : decode cX10_told 2 = .ok (.aload_n 0, 1) := by decide +kernel
theorem dX10_told_3 : decode cX10_told 3 = .ok (.getfield 141, 3) := by decide +kernel
theorem dX10_told_6 : decode cX10_told 6 = .ok (.iconst 1, 1) := by decide +kernel
theorem dX10_told_7 : decode cX10_told 7 = .ok (.isub, 1) := by decide +kernel
theorem dX10_told_8 : decode cX10_told 8 = .ok (.invokestatic 91, 3) := by decide +kernel
theorem dX10_told_11 : decode cX10_told 11 = .ok (.ifCond .eq 26, 3) := by decide +kernel
theorem dX10_told_14 : decode cX10_told 14 = .ok (.iload_n 2, 1) := by decide +kernel
theorem dX10_told_15 : decode cX10_told 15 = .ok (.iconst 0, 1) := by decide +kernel
theorem dX10_told_16 : decode cX10_told 16 = .ok (.iconst 4, 1) := by decide +kernel
theorem dX10_told_17 : decode cX10_told 17 = .ok (.invokestatic 91, 3) := by decide +kernel
theorem dX10_told_20 : decode cX10_told 20 = .ok (.ifCond .eq 17, 3) := by decide +kernel
theorem dX10_told_23 : decode cX10_told 23 = .ok (.aload_n 0, 1) := by decide +kernel
theorem dX10_told_24 : decode cX10_told 24 = .ok (.aload_n 0, 1) := by decide +kernel
theorem dX10_told_25 : decode cX10_told 25 = .ok (.iload_n 1, 1) := by decide +kernel
theorem dX10_told_26 : decode cX10_told 26 = .ok (.iload_n 2, 1) := by decide +kernel
theorem dX10_told_27 : decode cX10_told 27 = .ok (.invokevirtual 304, 3) := by decide +kernel
theorem dX10_told_30 : decode cX10_told 30 = .ok (.iconst 1, 1) := by decide +kernel
theorem dX10_told_31 : decode cX10_told 31 = .ok (.invokevirtual 117, 3) := by decide +kernel
theorem dX10_told_34 : decode cX10_told 34 = .ok (.goto 4, 3) := by decide +kernel
theorem dX10_told_37 : decode cX10_told 37 = .ok (.iconst (-1), 1) := by decide +kernel
theorem dX10_told_38 : decode cX10_told 38 = .ok (.ireturn, 1) := by decide +kernel
theorem dX10_back_0 : decode cX10_back 0 = .ok (.iload_n 1, 1) := by decide +kernel
theorem dX10_back_1 : decode cX10_back 1 = .ok (.iconst 0, 1) := by decide +kernel
theorem dX10_back_2 : decode cX10_back 2 = .ok (.aload_n 0, 1) := by decide +kernel
theorem dX10_back_3 : decode cX10_back 3 = .ok (.getfield 141, 3) := by decide +kernel
theorem dX10_back_6 : decode cX10_back 6 = .ok (.invokestatic 91, 3) := by decide +kernel
theorem dX10_back_9 : decode cX10_back 9 = .ok (.ifCond .ne 5, 3) := by decide +kernel
theorem dX10_back_12 : decode cX10_back 12 = .ok (.iconst (-1), 1) := by decide +kernel
theorem dX10_back_13 : decode cX10_back 13 = .ok (.ireturn, 1) := by decide +kernel
theorem dX10_back_14 : decode cX10_back 14 = .ok (.aload_n 0, 1) := by decide +kernel
theorem dX10_back_15 : decode cX10_back 15 = .ok (.getfield 141, 3) := by decide +kernel
theorem dX10_back_18 : decode cX10_back 18 = .ok (.iload_n 1, 1) := by decide +kernel
theorem dX10_back_19 : decode cX10_back 19 = .ok (.isub, 1) := by decide +kernel
theorem dX10_back_20 : decode cX10_back 20 = .ok (.istore_n 2, 1) := by decide +kernel
theorem dX10_back_21 : decode cX10_back 21 = .ok (.aload_n 0, 1) := by decide +kernel
theorem dX10_back_22 : decode cX10_back 22 = .ok (.iload_n 1, 1) := by decide +kernel
theorem dX10_back_23 : decode cX10_back 23 = .ok (.putfield 141, 3) := by decide +kernel
theorem dX10_back_26 : decode cX10_back 26 = .ok (.iload_n 2, 1) := by decide +kernel
theorem dX10_back_27 : decode cX10_back 27 = .ok (.ireturn, 1) := by decide +kernel
theorem dX10_isLeafOf_0 : decode cX10_isLeafOf 0 = .ok (.aload_n 0, 1) := by decide +kernel
theorem dX10_isLeafOf_1 : decode cX10_isLeafOf 1 = .ok (.iload_n 1, 1) := by decide +kernel
theorem dX10_isLeafOf_2 : decode cX10_isLeafOf 2 = .ok (.iconst 0, 1) := by decide +kernel
theorem dX10_isLeafOf_3 : decode cX10_isLeafOf 3 = .ok (.invokevirtual 304, 3) := by decide +kernel
theorem dX10_isLeafOf_6 : decode cX10_isLeafOf 6 = .ok (.iload_n 2, 1) := by decide +kernel
theorem dX10_isLeafOf_7 : decode cX10_isLeafOf 7 = .ok (.if_icmp .ne 17, 3) := by decide +kernel
theorem dX10_isLeafOf_10 : decode cX10_isLeafOf 10 = .ok (.aload_n 0, 1) := by decide +kernel
theorem dX10_isLeafOf_11 : decode cX10_isLeafOf 11 = .ok (.iload_n 1, 1) := by decide +kernel
theorem dX10_isLeafOf_12 : decode cX10_isLeafOf 12 = .ok (.iconst 1, 1) := by decide +kernel
theorem dX10_isLeafOf_13 : decode cX10_isLeafOf 13 = .ok (.invokevirtual 304, 3) := by decide +kernel
theorem dX10_isLeafOf_16 : decode cX10_isLeafOf 16 = .ok (.iload_n 3, 1) := by decide +kernel
theorem dX10_isLeafOf_17 : decode cX10_isLeafOf 17 = .ok (.if_icmp .ne 7, 3) := by decide +kernel
theorem dX10_isLeafOf_20 : decode cX10_isLeafOf 20 = .ok (.iconst 1, 1) := by decide +kernel
theorem dX10_isLeafOf_21 : decode cX10_isLeafOf 21 = .ok (.goto 4, 3) := by decide +kernel
theorem dX10_isLeafOf_24 : decode cX10_isLeafOf 24 = .ok (.iconst 0, 1) := by decide +kernel
theorem dX10_isLeafOf_25 : decode cX10_isLeafOf 25 = .ok (.ireturn, 1) := by decide +kernel
theorem dX10_tryAs_0 : decode cX10_tryAs 0 = .ok (.aload_n 0, 1) := by decide +kernel
theorem dX10_tryAs_1 : decode cX10_tryAs 1 = .ok (.bipush 8, 2) := by decide +kernel
theorem dX10_tryAs_3 : decode cX10_tryAs 3 = .ok (.iload_n 2, 1) := by decide +kernel
theorem dX10_tryAs_4 : decode cX10_tryAs 4 = .ok (.aload_n 0, 1) := by decide +kernel
theorem dX10_tryAs_5 : decode cX10_tryAs 5 = .ok (.iload_n 1, 1) := by decide +kernel
theorem dX10_tryAs_6 : decode cX10_tryAs 6 = .ok (.iconst 1, 1) := by decide +kernel
theorem dX10_tryAs_7 : decode cX10_tryAs 7 = .ok (.invokevirtual 165, 3) := by decide +kernel
theorem dX10_tryAs_10 : decode cX10_tryAs 10 = .ok (.aload_n 0, 1) := by decide +kernel
theorem dX10_tryAs_11 : decode cX10_tryAs 11 = .ok (.iload_n 1, 1) := by decide +kernel
theorem dX10_tryAs_12 : decode cX10_tryAs 12 = .ok (.iconst 2, 1) := by decide +kernel
theorem dX10_tryAs_13 : decode cX10_tryAs 13 = .ok (.invokevirtual 165, 3) := by decide +kernel
theorem dX10_tryAs_16 : decode cX10_tryAs 16 = .ok (.aload_n 0, 1) := by decide +kernel
theorem dX10_tryAs_17 : decode cX10_tryAs 17 = .ok (.iload_n 1, 1) := by decide +kernel
theorem dX10_tryAs_18 : decode cX10_tryAs 18 = .ok (.iconst 3, 1) := by decide +kernel
theorem dX10_tryAs_19 : decode cX10_tryAs 19 = .ok (.invokevirtual 165, 3) := by decide +kernel
theorem dX10_tryAs_22 : decode cX10_tryAs 22 = .ok (.invokevirtual 158, 3) := by decide +kernel
theorem dX10_tryAs_25 : decode cX10_tryAs 25 = .ok (.return_, 1) := by decide +kernel
theorem dX10_leavesOf_0 : decode cX10_leavesOf 0 = .ok (.iconst 0, 1) := by decide +kernel
theorem dX10_leavesOf_1 : decode cX10_leavesOf 1 = .ok (.istore_n 3, 1) := by decide +kernel
theorem dX10_leavesOf_2 : decode cX10_leavesOf 2 = .ok (.iconst 0, 1) := by decide +kernel
theorem dX10_leavesOf_3 : decode cX10_leavesOf 3 = .ok (.istore 4, 2) := by decide +kernel
theorem dX10_leavesOf_5 : decode cX10_leavesOf 5 = .ok (.iload 4, 2) := by decide +kernel
theorem dX10_leavesOf_7 : decode cX10_leavesOf 7 = .ok (.aload_n 0, 1) := by decide +kernel
theorem dX10_leavesOf_8 : decode cX10_leavesOf 8 = .ok (.getfield 141, 3) := by decide +kernel
theorem dX10_leavesOf_11 : decode cX10_leavesOf 11 = .ok (.if_icmp .ge 28, 3) := by decide +kernel
theorem dX10_leavesOf_14 : decode cX10_leavesOf 14 = .ok (.iload_n 3, 1) := by decide +kernel
theorem dX10_leavesOf_15 : decode cX10_leavesOf 15 = .ok (.aload_n 0, 1) := by decide +kernel
theorem dX10_leavesOf_16 : decode cX10_leavesOf 16 = .ok (.iload 4, 2) := by decide +kernel
theorem dX10_leavesOf_18 : decode cX10_leavesOf 18 = .ok (.iload_n 1, 1) := by decide +kernel
theorem dX10_leavesOf_19 : decode cX10_leavesOf 19 = .ok (.iload_n 2, 1) := by decide +kernel
theorem dX10_leavesOf_20 : decode cX10_leavesOf 20 = .ok (.invokevirtual 307, 3) := by decide +kernel
theorem dX10_leavesOf_23 : decode cX10_leavesOf 23 = .ok (.ifCond .eq 7, 3) := by decide +kernel
theorem dX10_leavesOf_26 : decode cX10_leavesOf 26 = .ok (.iconst 1, 1) := by decide +kernel
theorem dX10_leavesOf_27 : decode cX10_leavesOf 27 = .ok (.goto 4, 3) := by decide +kernel
theorem dX10_leavesOf_30 : decode cX10_leavesOf 30 = .ok (.iconst 0, 1) := by decide +kernel
theorem dX10_leavesOf_31 : decode cX10_leavesOf 31 = .ok (.iadd, 1) := by decide +kernel
theorem dX10_leavesOf_32 : decode cX10_leavesOf 32 = .ok (.istore_n 3, 1) := by decide +kernel
theorem dX10_leavesOf_33 : decode cX10_leavesOf 33 = .ok (.iinc 4 1, 3) := by decide +kernel
theorem dX10_leavesOf_36 : decode cX10_leavesOf 36 = .ok (.goto (-31), 3) := by decide +kernel
theorem dX10_leavesOf_39 : decode cX10_leavesOf 39 = .ok (.iload_n 3, 1) := by decide +kernel
theorem dX10_leavesOf_40 : decode cX10_leavesOf 40 = .ok (.ireturn, 1) := by decide +kernel
theorem dX10_hand_0 : decode cX10_hand 0 = .ok (.aload_n 0, 1) := by decide +kernel
theorem dX10_hand_1 : decode cX10_hand 1 = .ok (.iload_n 1, 1) := by decide +kernel
theorem dX10_hand_2 : decode cX10_hand 2 = .ok (.invokevirtual 162, 3) := by decide +kernel
theorem dX10_hand_5 : decode cX10_hand 5 = .ok (.ifCond .ne 5, 3) := by decide +kernel
theorem dX10_hand_8 : decode cX10_hand 8 = .ok (.iconst (-1), 1) := by decide +kernel
theorem dX10_hand_9 : decode cX10_hand 9 = .ok (.ireturn, 1) := by decide +kernel
theorem dX10_hand_10 : decode cX10_hand 10 = .ok (.aload_n 0, 1) := by decide +kernel
theorem dX10_hand_11 : decode cX10_hand 11 = .ok (.iconst 0, 1) := by decide +kernel
theorem dX10_hand_12 : decode cX10_hand 12 = .ok (.iload_n 1, 1) := by decide +kernel
theorem dX10_hand_13 : decode cX10_hand 13 = .ok (.invokevirtual 310, 3) := by decide +kernel
theorem dX10_hand_16 : decode cX10_hand 16 = .ok (.ifCond .ne 9, 3) := by decide +kernel
theorem dX10_hand_19 : decode cX10_hand 19 = .ok (.aload_n 0, 1) := by decide +kernel
theorem dX10_hand_20 : decode cX10_hand 20 = .ok (.iconst 4, 1) := by decide +kernel
theorem dX10_hand_21 : decode cX10_hand 21 = .ok (.invokevirtual 99, 3) := by decide +kernel
theorem dX10_hand_24 : decode cX10_hand 24 = .ok (.ireturn, 1) := by decide +kernel
theorem dX10_hand_25 : decode cX10_hand 25 = .ok (.bipush (-9), 2) := by decide +kernel
theorem dX10_hand_27 : decode cX10_hand 27 = .ok (.istore_n 2, 1) := by decide +kernel
theorem dX10_hand_28 : decode cX10_hand 28 = .ok (.iconst 0, 1) := by decide +kernel
theorem dX10_hand_29 : decode cX10_hand 29 = .ok (.istore_n 3, 1) := by decide +kernel
theorem dX10_hand_30 : decode cX10_hand 30 = .ok (.iconst 0, 1) := by decide +kernel
theorem dX10_hand_31 : decode cX10_hand 31 = .ok (.istore 4, 2) := by decide +kernel
theorem dX10_hand_33 : decode cX10_hand 33 = .ok (.iload 4, 2) := by decide +kernel
theorem dX10_hand_35 : decode cX10_hand 35 = .ok (.bipush 6, 2) := by decide +kernel
theorem dX10_hand_37 : decode cX10_hand 37 = .ok (.if_icmp .ge 95, 3) := by decide +kernel
theorem dX10_hand_40 : decode cX10_hand 40 = .ok (.aload_n 0, 1) := by decide +kernel
theorem dX10_hand_41 : decode cX10_hand 41 = .ok (.iload_n 1, 1) := by decide +kernel
theorem dX10_hand_42 : decode cX10_hand 42 = .ok (.iload 4, 2) := by decide +kernel
theorem dX10_hand_44 : decode cX10_hand 44 = .ok (.invokevirtual 313, 3) := by decide +kernel
theorem dX10_hand_47 : decode cX10_hand 47 = .ok (.iconst 0, 1) := by decide +kernel
theorem dX10_hand_48 : decode cX10_hand 48 = .ok (.istore 5, 2) := by decide +kernel
theorem dX10_hand_50 : decode cX10_hand 50 = .ok (.iconst 0, 1) := by decide +kernel
theorem dX10_hand_51 : decode cX10_hand 51 = .ok (.istore 6, 2) := by decide +kernel
theorem dX10_hand_53 : decode cX10_hand 53 = .ok (.iload 6, 2) := by decide +kernel
theorem dX10_hand_55 : decode cX10_hand 55 = .ok (.aload_n 0, 1) := by decide +kernel
theorem dX10_hand_56 : decode cX10_hand 56 = .ok (.getfield 141, 3) := by decide +kernel
theorem dX10_hand_59 : decode cX10_hand 59 = .ok (.if_icmp .ge 49, 3) := by decide +kernel
theorem dX10_hand_62 : decode cX10_hand 62 = .ok (.aload_n 0, 1) := by decide +kernel
theorem dX10_hand_63 : decode cX10_hand 63 = .ok (.iload 6, 2) := by decide +kernel
theorem dX10_hand_65 : decode cX10_hand 65 = .ok (.iconst 0, 1) := by decide +kernel
theorem dX10_hand_66 : decode cX10_hand 66 = .ok (.iload_n 1, 1) := by decide +kernel
theorem dX10_hand_67 : decode cX10_hand 67 = .ok (.invokevirtual 307, 3) := by decide +kernel
theorem dX10_hand_70 : decode cX10_hand 70 = .ok (.ifCond .eq 32, 3) := by decide +kernel
theorem dX10_hand_73 : decode cX10_hand 73 = .ok (.iload 5, 2) := by decide +kernel
theorem dX10_hand_75 : decode cX10_hand 75 = .ok (.aload_n 0, 1) := by decide +kernel
theorem dX10_hand_76 : decode cX10_hand 76 = .ok (.bipush 8, 2) := by decide +kernel
theorem dX10_hand_78 : decode cX10_hand 78 = .ok (.aload_n 0, 1) := by decide +kernel
theorem dX10_hand_79 : decode cX10_hand 79 = .ok (.iload 6, 2) := by decide +kernel
theorem dX10_hand_81 : decode cX10_hand 81 = .ok (.iconst 2, 1) := by decide +kernel
theorem dX10_hand_82 : decode cX10_hand 82 = .ok (.invokevirtual 304, 3) := by decide +kernel
theorem dX10_hand_85 : decode cX10_hand 85 = .ok (.invokevirtual 181, 3) := by decide +kernel
theorem dX10_hand_88 : decode cX10_hand 88 = .ok (.aload_n 0, 1) := by decide +kernel
theorem dX10_hand_89 : decode cX10_hand 89 = .ok (.iload 6, 2) := by decide +kernel
theorem dX10_hand_91 : decode cX10_hand 91 = .ok (.iconst 3, 1) := by decide +kernel
theorem dX10_hand_92 : decode cX10_hand 92 = .ok (.invokevirtual 304, 3) := by decide +kernel
theorem dX10_hand_95 : decode cX10_hand 95 = .ok (.ixor, 1) := by decide +kernel
theorem dX10_hand_96 : decode cX10_hand 96 = .ok (.invokestatic 282, 3) := by decide +kernel
theorem dX10_hand_99 : decode cX10_hand 99 = .ok (.iadd, 1) := by decide +kernel
theorem dX10_hand_100 : decode cX10_hand 100 = .ok (.istore 5, 2) := by decide +kernel
theorem dX10_hand_102 : decode cX10_hand 102 = .ok (.iinc 6 1, 3) := by decide +kernel
theorem dX10_hand_105 : decode cX10_hand 105 = .ok (.goto (-52), 3) := by decide +kernel
theorem dX10_hand_108 : decode cX10_hand 108 = .ok (.iload_n 2, 1) := by decide +kernel
theorem dX10_hand_109 : decode cX10_hand 109 = .ok (.bipush (-9), 2) := by decide +kernel
theorem dX10_hand_111 : decode cX10_hand 111 = .ok (.if_icmp .eq 9, 3) := by decide +kernel
theorem dX10_hand_114 : decode cX10_hand 114 = .ok (.iload 5, 2) := by decide +kernel
theorem dX10_hand_116 : decode cX10_hand 116 = .ok (.iload_n 3, 1) := by decide +kernel
theorem dX10_hand_117 : decode cX10_hand 117 = .ok (.if_icmp .ge 9, 3) := by decide +kernel
theorem dX10_hand_120 : decode cX10_hand 120 = .ok (.iload 4, 2) := by decide +kernel
theorem dX10_hand_122 : decode cX10_hand 122 = .ok (.istore_n 2, 1) := by decide +kernel
theorem dX10_hand_123 : decode cX10_hand 123 = .ok (.iload 5, 2) := by decide +kernel
theorem dX10_hand_125 : decode cX10_hand 125 = .ok (.istore_n 3, 1) := by decide +kernel
theorem dX10_hand_126 : decode cX10_hand 126 = .ok (.iinc 4 1, 3) := by decide +kernel
theorem dX10_hand_129 : decode cX10_hand 129 = .ok (.goto (-96), 3) := by decide +kernel
theorem dX10_hand_132 : decode cX10_hand 132 = .ok (.aload_n 0, 1) := by decide +kernel
theorem dX10_hand_133 : decode cX10_hand 133 = .ok (.iload_n 3, 1) := by decide +kernel
theorem dX10_hand_134 : decode cX10_hand 134 = .ok (.iload_n 2, 1) := by decide +kernel
theorem dX10_hand_135 : decode cX10_hand 135 = .ok (.invokevirtual 117, 3) := by decide +kernel
theorem dX10_hand_138 : decode cX10_hand 138 = .ok (.ireturn, 1) := by decide +kernel
theorem dX10_shareByLeaf_0 : decode cX10_shareByLeaf 0 = .ok (.aload_n 0, 1) := by decide +kernel
theorem dX10_shareByLeaf_1 : decode cX10_shareByLeaf 1 = .ok (.aload_n 0, 1) := by decide +kernel
theorem dX10_shareByLeaf_2 : decode cX10_shareByLeaf 2 = .ok (.iload_n 2, 1) := by decide +kernel
theorem dX10_shareByLeaf_3 : decode cX10_shareByLeaf 3 = .ok (.iconst 5, 1) := by decide +kernel
theorem dX10_shareByLeaf_4 : decode cX10_shareByLeaf 4 = .ok (.invokevirtual 304, 3) := by decide +kernel
theorem dX10_shareByLeaf_7 : decode cX10_shareByLeaf 7 = .ok (.putfield 178, 3) := by decide +kernel
theorem dX10_shareByLeaf_10 : decode cX10_shareByLeaf 10 = .ok (.iconst 0, 1) := by decide +kernel
theorem dX10_shareByLeaf_11 : decode cX10_shareByLeaf 11 = .ok (.istore_n 3, 1) := by decide +kernel
theorem dX10_shareByLeaf_12 : decode cX10_shareByLeaf 12 = .ok (.iload_n 3, 1) := by decide +kernel
theorem dX10_shareByLeaf_13 : decode cX10_shareByLeaf 13 = .ok (.aload_n 0, 1) := by decide +kernel
theorem dX10_shareByLeaf_14 : decode cX10_shareByLeaf 14 = .ok (.getfield 178, 3) := by decide +kernel
theorem dX10_shareByLeaf_17 : decode cX10_shareByLeaf 17 = .ok (.if_icmp .ge 24, 3) := by decide +kernel
theorem dX10_shareByLeaf_20 : decode cX10_shareByLeaf 20 = .ok (.aload_n 0, 1) := by decide +kernel
theorem dX10_shareByLeaf_21 : decode cX10_shareByLeaf 21 = .ok (.getfield 44, 3) := by decide +kernel
theorem dX10_shareByLeaf_24 : decode cX10_shareByLeaf 24 = .ok (.iload_n 3, 1) := by decide +kernel
theorem dX10_shareByLeaf_25 : decode cX10_shareByLeaf 25 = .ok (.aload_n 0, 1) := by decide +kernel
theorem dX10_shareByLeaf_26 : decode cX10_shareByLeaf 26 = .ok (.iload_n 2, 1) := by decide +kernel
theorem dX10_shareByLeaf_27 : decode cX10_shareByLeaf 27 = .ok (.bipush 6, 2) := by decide +kernel
theorem dX10_shareByLeaf_29 : decode cX10_shareByLeaf 29 = .ok (.iload_n 3, 1) := by decide +kernel
theorem dX10_shareByLeaf_30 : decode cX10_shareByLeaf 30 = .ok (.iadd, 1) := by decide +kernel
theorem dX10_shareByLeaf_31 : decode cX10_shareByLeaf 31 = .ok (.invokevirtual 304, 3) := by decide +kernel
theorem dX10_shareByLeaf_34 : decode cX10_shareByLeaf 34 = .ok (.iastore, 1) := by decide +kernel
theorem dX10_shareByLeaf_35 : decode cX10_shareByLeaf 35 = .ok (.iinc 3 1, 3) := by decide +kernel
theorem dX10_shareByLeaf_38 : decode cX10_shareByLeaf 38 = .ok (.goto (-26), 3) := by decide +kernel
theorem dX10_shareByLeaf_41 : decode cX10_shareByLeaf 41 = .ok (.aload_n 0, 1) := by decide +kernel
theorem dX10_shareByLeaf_42 : decode cX10_shareByLeaf 42 = .ok (.iload_n 1, 1) := by decide +kernel
theorem dX10_shareByLeaf_43 : decode cX10_shareByLeaf 43 = .ok (.aload_n 0, 1) := by decide +kernel
theorem dX10_shareByLeaf_44 : decode cX10_shareByLeaf 44 = .ok (.iload_n 2, 1) := by decide +kernel
theorem dX10_shareByLeaf_45 : decode cX10_shareByLeaf 45 = .ok (.iconst 4, 1) := by decide +kernel
theorem dX10_shareByLeaf_46 : decode cX10_shareByLeaf 46 = .ok (.invokevirtual 304, 3) := by decide +kernel
theorem dX10_shareByLeaf_49 : decode cX10_shareByLeaf 49 = .ok (.invokevirtual 193, 3) := by decide +kernel
theorem dX10_shareByLeaf_52 : decode cX10_shareByLeaf 52 = .ok (.aload_n 0, 1) := by decide +kernel
theorem dX10_shareByLeaf_53 : decode cX10_shareByLeaf 53 = .ok (.getfield 50, 3) := by decide +kernel
theorem dX10_shareByLeaf_56 : decode cX10_shareByLeaf 56 = .ok (.aload_n 0, 1) := by decide +kernel
theorem dX10_shareByLeaf_57 : decode cX10_shareByLeaf 57 = .ok (.iload_n 2, 1) := by decide +kernel
theorem dX10_shareByLeaf_58 : decode cX10_shareByLeaf 58 = .ok (.iconst 2, 1) := by decide +kernel
theorem dX10_shareByLeaf_59 : decode cX10_shareByLeaf 59 = .ok (.invokevirtual 304, 3) := by decide +kernel
theorem dX10_shareByLeaf_62 : decode cX10_shareByLeaf 62 = .ok (.iaload, 1) := by decide +kernel
theorem dX10_shareByLeaf_63 : decode cX10_shareByLeaf 63 = .ok (.ireturn, 1) := by decide +kernel
theorem dX10_guesser_0 : decode cX10_guesser 0 = .ok (.aload_n 0, 1) := by decide +kernel
theorem dX10_guesser_1 : decode cX10_guesser 1 = .ok (.iload_n 1, 1) := by decide +kernel
theorem dX10_guesser_2 : decode cX10_guesser 2 = .ok (.invokevirtual 162, 3) := by decide +kernel
theorem dX10_guesser_5 : decode cX10_guesser 5 = .ok (.ifCond .ne 5, 3) := by decide +kernel
theorem dX10_guesser_8 : decode cX10_guesser 8 = .ok (.iconst (-1), 1) := by decide +kernel
theorem dX10_guesser_9 : decode cX10_guesser 9 = .ok (.ireturn, 1) := by decide +kernel
theorem dX10_guesser_10 : decode cX10_guesser 10 = .ok (.aload_n 0, 1) := by decide +kernel
theorem dX10_guesser_11 : decode cX10_guesser 11 = .ok (.iconst 1, 1) := by decide +kernel
theorem dX10_guesser_12 : decode cX10_guesser 12 = .ok (.iload_n 1, 1) := by decide +kernel
theorem dX10_guesser_13 : decode cX10_guesser 13 = .ok (.invokevirtual 310, 3) := by decide +kernel
theorem dX10_guesser_16 : decode cX10_guesser 16 = .ok (.istore_n 2, 1) := by decide +kernel
theorem dX10_guesser_17 : decode cX10_guesser 17 = .ok (.iload_n 2, 1) := by decide +kernel
theorem dX10_guesser_18 : decode cX10_guesser 18 = .ok (.bipush 8, 2) := by decide +kernel
theorem dX10_guesser_20 : decode cX10_guesser 20 = .ok (.if_icmp .le 6, 3) := by decide +kernel
theorem dX10_guesser_23 : decode cX10_guesser 23 = .ok (.bipush (-6), 2) := by decide +kernel
theorem dX10_guesser_25 : decode cX10_guesser 25 = .ok (.ireturn, 1) := by decide +kernel
theorem dX10_guesser_26 : decode cX10_guesser 26 = .ok (.bipush (-9), 2) := by decide +kernel
theorem dX10_guesser_28 : decode cX10_guesser 28 = .ok (.istore_n 3, 1) := by decide +kernel
theorem dX10_guesser_29 : decode cX10_guesser 29 = .ok (.lconst 0, 1) := by decide +kernel
theorem dX10_guesser_30 : decode cX10_guesser 30 = .ok (.lstore 4, 2) := by decide +kernel
theorem dX10_guesser_32 : decode cX10_guesser 32 = .ok (.lconst 0, 1) := by decide +kernel
theorem dX10_guesser_33 : decode cX10_guesser 33 = .ok (.lstore 6, 2) := by decide +kernel
theorem dX10_guesser_35 : decode cX10_guesser 35 = .ok (.iconst 0, 1) := by decide +kernel
theorem dX10_guesser_36 : decode cX10_guesser 36 = .ok (.istore 8, 2) := by decide +kernel
theorem dX10_guesser_38 : decode cX10_guesser 38 = .ok (.iload 8, 2) := by decide +kernel
theorem dX10_guesser_40 : decode cX10_guesser 40 = .ok (.bipush 6, 2) := by decide +kernel
theorem dX10_guesser_42 : decode cX10_guesser 42 = .ok (.if_icmp .ge 109, 3) := by decide +kernel
theorem dX10_guesser_45 : decode cX10_guesser 45 = .ok (.iload_n 2, 1) := by decide +kernel
theorem dX10_guesser_46 : decode cX10_guesser 46 = .ok (.ifCond .le 105, 3) := by decide +kernel
theorem dX10_guesser_49 : decode cX10_guesser 49 = .ok (.aload_n 0, 1) := by decide +kernel
theorem dX10_guesser_50 : decode cX10_guesser 50 = .ok (.iload_n 1, 1) := by decide +kernel
theorem dX10_guesser_51 : decode cX10_guesser 51 = .ok (.iload 8, 2) := by decide +kernel
theorem dX10_guesser_53 : decode cX10_guesser 53 = .ok (.invokevirtual 313, 3) := by decide +kernel
theorem dX10_guesser_56 : decode cX10_guesser 56 = .ok (.lconst 1, 1) := by decide +kernel
theorem dX10_guesser_57 : decode cX10_guesser 57 = .ok (.lstore 9, 2) := by decide +kernel
theorem dX10_guesser_59 : decode cX10_guesser 59 = .ok (.iconst 0, 1) := by decide +kernel
theorem dX10_guesser_60 : decode cX10_guesser 60 = .ok (.istore 11, 2) := by decide +kernel
theorem dX10_guesser_62 : decode cX10_guesser 62 = .ok (.iload 11, 2) := by decide +kernel
theorem dX10_guesser_64 : decode cX10_guesser 64 = .ok (.aload_n 0, 1) := by decide +kernel
theorem dX10_guesser_65 : decode cX10_guesser 65 = .ok (.getfield 141, 3) := by decide +kernel
theorem dX10_guesser_68 : decode cX10_guesser 68 = .ok (.if_icmp .ge 38, 3) := by decide +kernel
theorem dX10_guesser_71 : decode cX10_guesser 71 = .ok (.lload 9, 2) := by decide +kernel
theorem dX10_guesser_73 : decode cX10_guesser 73 = .ok (.aload_n 0, 1) := by decide +kernel
theorem dX10_guesser_74 : decode cX10_guesser 74 = .ok (.iload 11, 2) := by decide +kernel
theorem dX10_guesser_76 : decode cX10_guesser 76 = .ok (.iconst 1, 1) := by decide +kernel
theorem dX10_guesser_77 : decode cX10_guesser 77 = .ok (.iload_n 1, 1) := by decide +kernel
theorem dX10_guesser_78 : decode cX10_guesser 78 = .ok (.invokevirtual 307, 3) := by decide +kernel
theorem dX10_guesser_81 : decode cX10_guesser 81 = .ok (.ifCond .eq 15, 3) := by decide +kernel
theorem dX10_guesser_84 : decode cX10_guesser 84 = .ok (.aload_n 0, 1) := by decide +kernel
theorem dX10_guesser_85 : decode cX10_guesser 85 = .ok (.bipush 8, 2) := by decide +kernel
theorem dX10_guesser_87 : decode cX10_guesser 87 = .ok (.iload 11, 2) := by decide +kernel
theorem dX10_guesser_89 : decode cX10_guesser 89 = .ok (.invokevirtual 316, 3) := by decide +kernel
theorem dX10_guesser_92 : decode cX10_guesser 92 = .ok (.i2l, 1) := by decide +kernel
theorem dX10_guesser_93 : decode cX10_guesser 93 = .ok (.goto 4, 3) := by decide +kernel
theorem dX10_guesser_96 : decode cX10_guesser 96 = .ok (.lconst 1, 1) := by decide +kernel
theorem dX10_guesser_97 : decode cX10_guesser 97 = .ok (.lmul, 1) := by decide +kernel
theorem dX10_guesser_98 : decode cX10_guesser 98 = .ok (.lstore 9, 2) := by decide +kernel
theorem dX10_guesser_100 : decode cX10_guesser 100 = .ok (.iinc 11 1, 3) := by decide +kernel
theorem dX10_guesser_103 : decode cX10_guesser 103 = .ok (.goto (-41), 3) := by decide +kernel
theorem dX10_guesser_106 : decode cX10_guesser 106 = .ok (.lload 6, 2) := by decide +kernel
theorem dX10_guesser_108 : decode cX10_guesser 108 = .ok (.lload 9, 2) := by decide +kernel
theorem dX10_guesser_110 : decode cX10_guesser 110 = .ok (.ladd, 1) := by decide +kernel
theorem dX10_guesser_111 : decode cX10_guesser 111 = .ok (.lstore 6, 2) := by decide +kernel
theorem dX10_guesser_113 : decode cX10_guesser 113 = .ok (.lload 9, 2) := by decide +kernel
theorem dX10_guesser_115 : decode cX10_guesser 115 = .ok (.lload 4, 2) := by decide +kernel
theorem dX10_guesser_117 : decode cX10_guesser 117 = .ok (.lcmp, 1) := by decide +kernel
theorem dX10_guesser_118 : decode cX10_guesser 118 = .ok (.ifCond .le 8, 3) := by decide +kernel
theorem dX10_guesser_121 : decode cX10_guesser 121 = .ok (.iload 8, 2) := by decide +kernel
theorem dX10_guesser_123 : decode cX10_guesser 123 = .ok (.goto 4, 3) := by decide +kernel
theorem dX10_guesser_126 : decode cX10_guesser 126 = .ok (.iload_n 3, 1) := by decide +kernel
theorem dX10_guesser_127 : decode cX10_guesser 127 = .ok (.istore_n 3, 1) := by decide +kernel
theorem dX10_guesser_128 : decode cX10_guesser 128 = .ok (.lload 9, 2) := by decide +kernel
theorem dX10_guesser_130 : decode cX10_guesser 130 = .ok (.lload 4, 2) := by decide +kernel
theorem dX10_guesser_132 : decode cX10_guesser 132 = .ok (.lcmp, 1) := by decide +kernel
theorem dX10_guesser_133 : decode cX10_guesser 133 = .ok (.ifCond .le 8, 3) := by decide +kernel
theorem dX10_guesser_136 : decode cX10_guesser 136 = .ok (.lload 9, 2) := by decide +kernel
theorem dX10_guesser_138 : decode cX10_guesser 138 = .ok (.goto 5, 3) := by decide +kernel
theorem dX10_guesser_141 : decode cX10_guesser 141 = .ok (.lload 4, 2) := by decide +kernel
theorem dX10_guesser_143 : decode cX10_guesser 143 = .ok (.lstore 4, 2) := by decide +kernel
theorem dX10_guesser_145 : decode cX10_guesser 145 = .ok (.iinc 8 1, 3) := by decide +kernel
theorem dX10_guesser_148 : decode cX10_guesser 148 = .ok (.goto (-110), 3) := by decide +kernel
theorem dX10_guesser_151 : decode cX10_guesser 151 = .ok (.lload 6, 2) := by decide +kernel
theorem dX10_guesser_153 : decode cX10_guesser 153 = .ok (.lconst 0, 1) := by decide +kernel
theorem dX10_guesser_154 : decode cX10_guesser 154 = .ok (.lcmp, 1) := by decide +kernel
theorem dX10_guesser_155 : decode cX10_guesser 155 = .ok (.ifCond .ne 11, 3) := by decide +kernel
theorem dX10_guesser_158 : decode cX10_guesser 158 = .ok (.aload_n 0, 1) := by decide +kernel
theorem dX10_guesser_159 : decode cX10_guesser 159 = .ok (.iconst 4, 1) := by decide +kernel
theorem dX10_guesser_160 : decode cX10_guesser 160 = .ok (.invokevirtual 99, 3) := by decide +kernel
theorem dX10_guesser_163 : decode cX10_guesser 163 = .ok (.goto 12, 3) := by decide +kernel
theorem dX10_guesser_166 : decode cX10_guesser 166 = .ok (.aload_n 0, 1) := by decide +kernel
theorem dX10_guesser_167 : decode cX10_guesser 167 = .ok (.lload 4, 2) := by decide +kernel
theorem dX10_guesser_169 : decode cX10_guesser 169 = .ok (.lload 6, 2) := by decide +kernel
theorem dX10_guesser_171 : decode cX10_guesser 171 = .ok (.iload_n 3, 1) := by decide +kernel
theorem dX10_guesser_172 : decode cX10_guesser 172 = .ok (.invokevirtual 248, 3) := by decide +kernel
theorem dX10_guesser_175 : decode cX10_guesser 175 = .ok (.ireturn, 1) := by decide +kernel
theorem dX10_takes_0 : decode cX10_takes 0 = .ok (.bipush (-9), 2) := by decide +kernel
theorem dX10_takes_2 : decode cX10_takes 2 = .ok (.istore_n 3, 1) := by decide +kernel
theorem dX10_takes_3 : decode cX10_takes 3 = .ok (.iconst 0, 1) := by decide +kernel
theorem dX10_takes_4 : decode cX10_takes 4 = .ok (.istore 4, 2) := by decide +kernel
theorem dX10_takes_6 : decode cX10_takes 6 = .ok (.iload 4, 2) := by decide +kernel
theorem dX10_takes_8 : decode cX10_takes 8 = .ok (.aload_n 0, 1) := by decide +kernel
theorem dX10_takes_9 : decode cX10_takes 9 = .ok (.getfield 141, 3) := by decide +kernel
theorem dX10_takes_12 : decode cX10_takes 12 = .ok (.if_icmp .ge 68, 3) := by decide +kernel
theorem dX10_takes_15 : decode cX10_takes 15 = .ok (.aload_n 0, 1) := by decide +kernel
theorem dX10_takes_16 : decode cX10_takes 16 = .ok (.iload 4, 2) := by decide +kernel
theorem dX10_takes_18 : decode cX10_takes 18 = .ok (.iconst 0, 1) := by decide +kernel
theorem dX10_takes_19 : decode cX10_takes 19 = .ok (.invokevirtual 304, 3) := by decide +kernel
theorem dX10_takes_22 : decode cX10_takes 22 = .ok (.ifCond .ne 52, 3) := by decide +kernel
theorem dX10_takes_25 : decode cX10_takes 25 = .ok (.iload 4, 2) := by decide +kernel
theorem dX10_takes_27 : decode cX10_takes 27 = .ok (.iload_n 2, 1) := by decide +kernel
theorem dX10_takes_28 : decode cX10_takes 28 = .ok (.if_icmp .eq 46, 3) := by decide +kernel
theorem dX10_takes_31 : decode cX10_takes 31 = .ok (.aload_n 0, 1) := by decide +kernel
theorem dX10_takes_32 : decode cX10_takes 32 = .ok (.iload 4, 2) := by decide +kernel
theorem dX10_takes_34 : decode cX10_takes 34 = .ok (.iconst 3, 1) := by decide +kernel
theorem dX10_takes_35 : decode cX10_takes 35 = .ok (.invokevirtual 304, 3) := by decide +kernel
theorem dX10_takes_38 : decode cX10_takes 38 = .ok (.iload_n 1, 1) := by decide +kernel
theorem dX10_takes_39 : decode cX10_takes 39 = .ok (.ixor, 1) := by decide +kernel
theorem dX10_takes_40 : decode cX10_takes 40 = .ok (.invokestatic 282, 3) := by decide +kernel
theorem dX10_takes_43 : decode cX10_takes 43 = .ok (.istore 5, 2) := by decide +kernel
theorem dX10_takes_45 : decode cX10_takes 45 = .ok (.iload_n 3, 1) := by decide +kernel
theorem dX10_takes_46 : decode cX10_takes 46 = .ok (.bipush (-9), 2) := by decide +kernel
theorem dX10_takes_48 : decode cX10_takes 48 = .ok (.if_icmp .eq 12, 3) := by decide +kernel
theorem dX10_takes_51 : decode cX10_takes 51 = .ok (.iload 5, 2) := by decide +kernel
theorem dX10_takes_53 : decode cX10_takes 53 = .ok (.aload_n 0, 1) := by decide +kernel
theorem dX10_takes_54 : decode cX10_takes 54 = .ok (.getfield 319, 3) := by decide +kernel
theorem dX10_takes_57 : decode cX10_takes 57 = .ok (.if_icmp .ge 17, 3) := by decide +kernel
theorem dX10_takes_60 : decode cX10_takes 60 = .ok (.aload_n 0, 1) := by decide +kernel
theorem dX10_takes_61 : decode cX10_takes 61 = .ok (.iload 4, 2) := by decide +kernel
theorem dX10_takes_63 : decode cX10_takes 63 = .ok (.iconst 2, 1) := by decide +kernel
theorem dX10_takes_64 : decode cX10_takes 64 = .ok (.invokevirtual 304, 3) := by decide +kernel
theorem dX10_takes_67 : decode cX10_takes 67 = .ok (.istore_n 3, 1) := by decide +kernel
theorem dX10_takes_68 : decode cX10_takes 68 = .ok (.aload_n 0, 1) := by decide +kernel
theorem dX10_takes_69 : decode cX10_takes 69 = .ok (.iload 5, 2) := by decide +kernel
theorem dX10_takes_71 : decode cX10_takes 71 = .ok (.putfield 319, 3) := by decide +kernel
theorem dX10_takes_74 : decode cX10_takes 74 = .ok (.iinc 4 1, 3) := by decide +kernel
theorem dX10_takes_77 : decode cX10_takes 77 = .ok (.goto (-71), 3) := by decide +kernel
theorem dX10_takes_80 : decode cX10_takes 80 = .ok (.iload_n 3, 1) := by decide +kernel
theorem dX10_takes_81 : decode cX10_takes 81 = .ok (.ireturn, 1) := by decide +kernel
theorem dX10_machine_0 : decode cX10_machine 0 = .ok (.iload_n 1, 1) := by decide +kernel
theorem dX10_machine_1 : decode cX10_machine 1 = .ok (.invokestatic 95, 3) := by decide +kernel
theorem dX10_machine_4 : decode cX10_machine 4 = .ok (.ifCond .ne 5, 3) := by decide +kernel
theorem dX10_machine_7 : decode cX10_machine 7 = .ok (.iconst (-1), 1) := by decide +kernel
theorem dX10_machine_8 : decode cX10_machine 8 = .ok (.ireturn, 1) := by decide +kernel
theorem dX10_machine_9 : decode cX10_machine 9 = .ok (.aload_n 0, 1) := by decide +kernel
theorem dX10_machine_10 : decode cX10_machine 10 = .ok (.iload_n 1, 1) := by decide +kernel
theorem dX10_machine_11 : decode cX10_machine 11 = .ok (.invokevirtual 212, 3) := by decide +kernel
theorem dX10_machine_14 : decode cX10_machine 14 = .ok (.istore_n 2, 1) := by decide +kernel
theorem dX10_machine_15 : decode cX10_machine 15 = .ok (.iload_n 2, 1) := by decide +kernel
theorem dX10_machine_16 : decode cX10_machine 16 = .ok (.ifCond .ge 5, 3) := by decide +kernel
theorem dX10_machine_19 : decode cX10_machine 19 = .ok (.iload_n 2, 1) := by decide +kernel
theorem dX10_machine_20 : decode cX10_machine 20 = .ok (.ireturn, 1) := by decide +kernel
theorem dX10_machine_21 : decode cX10_machine 21 = .ok (.aload_n 0, 1) := by decide +kernel
theorem dX10_machine_22 : decode cX10_machine 22 = .ok (.aload_n 0, 1) := by decide +kernel
theorem dX10_machine_23 : decode cX10_machine 23 = .ok (.iload_n 1, 1) := by decide +kernel
theorem dX10_machine_24 : decode cX10_machine 24 = .ok (.invokevirtual 297, 3) := by decide +kernel
theorem dX10_machine_27 : decode cX10_machine 27 = .ok (.bipush (-9), 2) := by decide +kernel
theorem dX10_machine_29 : decode cX10_machine 29 = .ok (.invokevirtual 322, 3) := by decide +kernel
theorem dX10_machine_32 : decode cX10_machine 32 = .ok (.istore_n 3, 1) := by decide +kernel
theorem dX10_machine_33 : decode cX10_machine 33 = .ok (.iload_n 3, 1) := by decide +kernel
theorem dX10_machine_34 : decode cX10_machine 34 = .ok (.bipush (-9), 2) := by decide +kernel
theorem dX10_machine_36 : decode cX10_machine 36 = .ok (.if_icmp .ne 11, 3) := by decide +kernel
theorem dX10_machine_39 : decode cX10_machine 39 = .ok (.aload_n 0, 1) := by decide +kernel
theorem dX10_machine_40 : decode cX10_machine 40 = .ok (.iconst 4, 1) := by decide +kernel
theorem dX10_machine_41 : decode cX10_machine 41 = .ok (.invokevirtual 99, 3) := by decide +kernel
theorem dX10_machine_44 : decode cX10_machine 44 = .ok (.goto 12, 3) := by decide +kernel
theorem dX10_machine_47 : decode cX10_machine 47 = .ok (.aload_n 0, 1) := by decide +kernel
theorem dX10_machine_48 : decode cX10_machine 48 = .ok (.aload_n 0, 1) := by decide +kernel
theorem dX10_machine_49 : decode cX10_machine 49 = .ok (.getfield 319, 3) := by decide +kernel
theorem dX10_machine_52 : decode cX10_machine 52 = .ok (.iload_n 3, 1) := by decide +kernel
theorem dX10_machine_53 : decode cX10_machine 53 = .ok (.invokevirtual 117, 3) := by decide +kernel
theorem dX10_machine_56 : decode cX10_machine 56 = .ok (.ireturn, 1) := by decide +kernel
theorem dX10_held_0 : decode cX10_held 0 = .ok (.iconst 0, 1) := by decide +kernel
theorem dX10_held_1 : decode cX10_held 1 = .ok (.istore_n 1, 1) := by decide +kernel
theorem dX10_held_2 : decode cX10_held 2 = .ok (.iconst 0, 1) := by decide +kernel
theorem dX10_held_3 : decode cX10_held 3 = .ok (.istore_n 2, 1) := by decide +kernel
theorem dX10_held_4 : decode cX10_held 4 = .ok (.iconst 0, 1) := by decide +kernel
theorem dX10_held_5 : decode cX10_held 5 = .ok (.istore_n 3, 1) := by decide +kernel
theorem dX10_held_6 : decode cX10_held 6 = .ok (.iload_n 3, 1) := by decide +kernel
theorem dX10_held_7 : decode cX10_held 7 = .ok (.aload_n 0, 1) := by decide +kernel
theorem dX10_held_8 : decode cX10_held 8 = .ok (.getfield 141, 3) := by decide +kernel
theorem dX10_held_11 : decode cX10_held 11 = .ok (.if_icmp .ge 49, 3) := by decide +kernel
theorem dX10_held_14 : decode cX10_held 14 = .ok (.aload_n 0, 1) := by decide +kernel
theorem dX10_held_15 : decode cX10_held 15 = .ok (.iload_n 3, 1) := by decide +kernel
theorem dX10_held_16 : decode cX10_held 16 = .ok (.iconst 0, 1) := by decide +kernel
theorem dX10_held_17 : decode cX10_held 17 = .ok (.invokevirtual 304, 3) := by decide +kernel
theorem dX10_held_20 : decode cX10_held 20 = .ok (.ifCond .ne 34, 3) := by decide +kernel
theorem dX10_held_23 : decode cX10_held 23 = .ok (.iinc 1 1, 3) := by decide +kernel
theorem dX10_held_26 : decode cX10_held 26 = .ok (.iload_n 2, 1) := by decide +kernel
theorem dX10_held_27 : decode cX10_held 27 = .ok (.aload_n 0, 1) := by decide +kernel
theorem dX10_held_28 : decode cX10_held 28 = .ok (.aload_n 0, 1) := by decide +kernel
theorem dX10_held_29 : decode cX10_held 29 = .ok (.iload_n 3, 1) := by decide +kernel
theorem dX10_held_30 : decode cX10_held 30 = .ok (.iconst 3, 1) := by decide +kernel
theorem dX10_held_31 : decode cX10_held 31 = .ok (.invokevirtual 304, 3) := by decide +kernel
theorem dX10_held_34 : decode cX10_held 34 = .ok (.iload_n 3, 1) := by decide +kernel
theorem dX10_held_35 : decode cX10_held 35 = .ok (.invokevirtual 322, 3) := by decide +kernel
theorem dX10_held_38 : decode cX10_held 38 = .ok (.aload_n 0, 1) := by decide +kernel
theorem dX10_held_39 : decode cX10_held 39 = .ok (.iload_n 3, 1) := by decide +kernel
theorem dX10_held_40 : decode cX10_held 40 = .ok (.iconst 2, 1) := by decide +kernel
theorem dX10_held_41 : decode cX10_held 41 = .ok (.invokevirtual 304, 3) := by decide +kernel
theorem dX10_held_44 : decode cX10_held 44 = .ok (.if_icmp .ne 7, 3) := by decide +kernel
theorem dX10_held_47 : decode cX10_held 47 = .ok (.iconst 1, 1) := by decide +kernel
theorem dX10_held_48 : decode cX10_held 48 = .ok (.goto 4, 3) := by decide +kernel
theorem dX10_held_51 : decode cX10_held 51 = .ok (.iconst 0, 1) := by decide +kernel
theorem dX10_held_52 : decode cX10_held 52 = .ok (.iadd, 1) := by decide +kernel
theorem dX10_held_53 : decode cX10_held 53 = .ok (.istore_n 2, 1) := by decide +kernel
theorem dX10_held_54 : decode cX10_held 54 = .ok (.iinc 3 1, 3) := by decide +kernel
theorem dX10_held_57 : decode cX10_held 57 = .ok (.goto (-51), 3) := by decide +kernel
theorem dX10_held_60 : decode cX10_held 60 = .ok (.iload_n 1, 1) := by decide +kernel
theorem dX10_held_61 : decode cX10_held 61 = .ok (.iconst 2, 1) := by decide +kernel
theorem dX10_held_62 : decode cX10_held 62 = .ok (.if_icmp .ge 11, 3) := by decide +kernel
theorem dX10_held_65 : decode cX10_held 65 = .ok (.aload_n 0, 1) := by decide +kernel
theorem dX10_held_66 : decode cX10_held 66 = .ok (.iconst 4, 1) := by decide +kernel
theorem dX10_held_67 : decode cX10_held 67 = .ok (.invokevirtual 99, 3) := by decide +kernel
theorem dX10_held_70 : decode cX10_held 70 = .ok (.goto 9, 3) := by decide +kernel
theorem dX10_held_73 : decode cX10_held 73 = .ok (.aload_n 0, 1) := by decide +kernel
theorem dX10_held_74 : decode cX10_held 74 = .ok (.iload_n 1, 1) := by decide +kernel
theorem dX10_held_75 : decode cX10_held 75 = .ok (.iload_n 2, 1) := by decide +kernel
theorem dX10_held_76 : decode cX10_held 76 = .ok (.invokevirtual 117, 3) := by decide +kernel
theorem dX10_held_79 : decode cX10_held 79 = .ok (.ireturn, 1) := by decide +kernel
theorem dX10_setSign_0 : decode cX10_setSign 0 = .ok (.aload_n 0, 1) := by decide +kernel
theorem dX10_setSign_1 : decode cX10_setSign 1 = .ok (.iload_n 1, 1) := by decide +kernel
theorem dX10_setSign_2 : decode cX10_setSign 2 = .ok (.iload_n 3, 1) := by decide +kernel
theorem dX10_setSign_3 : decode cX10_setSign 3 = .ok (.invokevirtual 174, 3) := by decide +kernel
theorem dX10_setSign_6 : decode cX10_setSign 6 = .ok (.aload_n 0, 1) := by decide +kernel
theorem dX10_setSign_7 : decode cX10_setSign 7 = .ok (.getfield 171, 3) := by decide +kernel
theorem dX10_setSign_10 : decode cX10_setSign 10 = .ok (.istore 5, 2) := by decide +kernel
theorem dX10_setSign_12 : decode cX10_setSign 12 = .ok (.iconst 1, 1) := by decide +kernel
theorem dX10_setSign_13 : decode cX10_setSign 13 = .ok (.istore 6, 2) := by decide +kernel
theorem dX10_setSign_15 : decode cX10_setSign 15 = .ok (.iconst 0, 1) := by decide +kernel
theorem dX10_setSign_16 : decode cX10_setSign 16 = .ok (.istore 7, 2) := by decide +kernel
theorem dX10_setSign_18 : decode cX10_setSign 18 = .ok (.iload 7, 2) := by decide +kernel
theorem dX10_setSign_20 : decode cX10_setSign 20 = .ok (.iload 4, 2) := by decide +kernel
theorem dX10_setSign_22 : decode cX10_setSign 22 = .ok (.if_icmp .ge 89, 3) := by decide +kernel
theorem dX10_setSign_25 : decode cX10_setSign 25 = .ok (.iload 6, 2) := by decide +kernel
theorem dX10_setSign_27 : decode cX10_setSign 27 = .ok (.ifCond .eq 84, 3) := by decide +kernel
theorem dX10_setSign_30 : decode cX10_setSign 30 = .ok (.iload 5, 2) := by decide +kernel
theorem dX10_setSign_32 : decode cX10_setSign 32 = .ok (.iconst 1, 1) := by decide +kernel
theorem dX10_setSign_33 : decode cX10_setSign 33 = .ok (.if_icmp .le 7, 3) := by decide +kernel
theorem dX10_setSign_36 : decode cX10_setSign 36 = .ok (.iconst 1, 1) := by decide +kernel
theorem dX10_setSign_37 : decode cX10_setSign 37 = .ok (.goto 4, 3) := by decide +kernel
theorem dX10_setSign_40 : decode cX10_setSign 40 = .ok (.iconst 0, 1) := by decide +kernel
theorem dX10_setSign_41 : decode cX10_setSign 41 = .ok (.istore 6, 2) := by decide +kernel
theorem dX10_setSign_43 : decode cX10_setSign 43 = .ok (.iload 6, 2) := by decide +kernel
theorem dX10_setSign_45 : decode cX10_setSign 45 = .ok (.ifCond .eq 60, 3) := by decide +kernel
theorem dX10_setSign_48 : decode cX10_setSign 48 = .ok (.aload_n 0, 1) := by decide +kernel
theorem dX10_setSign_49 : decode cX10_setSign 49 = .ok (.iload_n 1, 1) := by decide +kernel
theorem dX10_setSign_50 : decode cX10_setSign 50 = .ok (.iload_n 3, 1) := by decide +kernel
theorem dX10_setSign_51 : decode cX10_setSign 51 = .ok (.invokevirtual 174, 3) := by decide +kernel
theorem dX10_setSign_54 : decode cX10_setSign 54 = .ok (.aload_n 0, 1) := by decide +kernel
theorem dX10_setSign_55 : decode cX10_setSign 55 = .ok (.invokevirtual 187, 3) := by decide +kernel
theorem dX10_setSign_58 : decode cX10_setSign 58 = .ok (.aload_n 0, 1) := by decide +kernel
theorem dX10_setSign_59 : decode cX10_setSign 59 = .ok (.iload 5, 2) := by decide +kernel
theorem dX10_setSign_61 : decode cX10_setSign 61 = .ok (.iconst 1, 1) := by decide +kernel
theorem dX10_setSign_62 : decode cX10_setSign 62 = .ok (.isub, 1) := by decide +kernel
theorem dX10_setSign_63 : decode cX10_setSign 63 = .ok (.putfield 178, 3) := by decide +kernel
theorem dX10_setSign_66 : decode cX10_setSign 66 = .ok (.aload_n 0, 1) := by decide +kernel
theorem dX10_setSign_67 : decode cX10_setSign 67 = .ok (.iload_n 2, 1) := by decide +kernel
theorem dX10_setSign_68 : decode cX10_setSign 68 = .ok (.iload_n 1, 1) := by decide +kernel
theorem dX10_setSign_69 : decode cX10_setSign 69 = .ok (.invokevirtual 193, 3) := by decide +kernel
theorem dX10_setSign_72 : decode cX10_setSign 72 = .ok (.aload_n 0, 1) := by decide +kernel
theorem dX10_setSign_73 : decode cX10_setSign 73 = .ok (.getfield 50, 3) := by decide +kernel
theorem dX10_setSign_76 : decode cX10_setSign 76 = .ok (.iload_n 3, 1) := by decide +kernel
theorem dX10_setSign_77 : decode cX10_setSign 77 = .ok (.iaload, 1) := by decide +kernel
theorem dX10_setSign_78 : decode cX10_setSign 78 = .ok (.bipush 12, 2) := by decide +kernel
theorem dX10_setSign_80 : decode cX10_setSign 80 = .ok (.if_icmp .lt 7, 3) := by decide +kernel
theorem dX10_setSign_83 : decode cX10_setSign 83 = .ok (.iconst 1, 1) := by decide +kernel
theorem dX10_setSign_84 : decode cX10_setSign 84 = .ok (.goto 4, 3) := by decide +kernel
theorem dX10_setSign_87 : decode cX10_setSign 87 = .ok (.iconst 0, 1) := by decide +kernel
theorem dX10_setSign_88 : decode cX10_setSign 88 = .ok (.istore 6, 2) := by decide +kernel
theorem dX10_setSign_90 : decode cX10_setSign 90 = .ok (.iload 5, 2) := by decide +kernel
theorem dX10_setSign_92 : decode cX10_setSign 92 = .ok (.iload 6, 2) := by decide +kernel
theorem dX10_setSign_94 : decode cX10_setSign 94 = .ok (.ifCond .eq 7, 3) := by decide +kernel
theorem dX10_setSign_97 : decode cX10_setSign 97 = .ok (.iconst 1, 1) := by decide +kernel
theorem dX10_setSign_98 : decode cX10_setSign 98 = .ok (.goto 4, 3) := by decide +kernel
theorem dX10_setSign_101 : decode cX10_setSign 101 = .ok (.iconst 0, 1) := by decide +kernel
theorem dX10_setSign_102 : decode cX10_setSign 102 = .ok (.isub, 1) := by decide +kernel
theorem dX10_setSign_103 : decode cX10_setSign 103 = .ok (.istore 5, 2) := by decide +kernel
theorem dX10_setSign_105 : decode cX10_setSign 105 = .ok (.iinc 7 1, 3) := by decide +kernel
theorem dX10_setSign_108 : decode cX10_setSign 108 = .ok (.goto (-90), 3) := by decide +kernel
theorem dX10_setSign_111 : decode cX10_setSign 111 = .ok (.aload_n 0, 1) := by decide +kernel
theorem dX10_setSign_112 : decode cX10_setSign 112 = .ok (.iload_n 1, 1) := by decide +kernel
theorem dX10_setSign_113 : decode cX10_setSign 113 = .ok (.iload_n 3, 1) := by decide +kernel
theorem dX10_setSign_114 : decode cX10_setSign 114 = .ok (.invokevirtual 174, 3) := by decide +kernel
theorem dX10_setSign_117 : decode cX10_setSign 117 = .ok (.aload_n 0, 1) := by decide +kernel
theorem dX10_setSign_118 : decode cX10_setSign 118 = .ok (.iload 5, 2) := by decide +kernel
theorem dX10_setSign_120 : decode cX10_setSign 120 = .ok (.putfield 171, 3) := by decide +kernel
theorem dX10_setSign_123 : decode cX10_setSign 123 = .ok (.return_, 1) := by decide +kernel
theorem dX10_sign_0 : decode cX10_sign 0 = .ok (.aload_n 0, 1) := by decide +kernel
theorem dX10_sign_1 : decode cX10_sign 1 = .ok (.iload_n 1, 1) := by decide +kernel
theorem dX10_sign_2 : decode cX10_sign 2 = .ok (.invokevirtual 162, 3) := by decide +kernel
theorem dX10_sign_5 : decode cX10_sign 5 = .ok (.ifCond .eq 43, 3) := by decide +kernel
theorem dX10_sign_8 : decode cX10_sign 8 = .ok (.aload_n 0, 1) := by decide +kernel
theorem dX10_sign_9 : decode cX10_sign 9 = .ok (.iload_n 2, 1) := by decide +kernel
theorem dX10_sign_10 : decode cX10_sign 10 = .ok (.invokevirtual 162, 3) := by decide +kernel
theorem dX10_sign_13 : decode cX10_sign 13 = .ok (.ifCond .eq 35, 3) := by decide +kernel
theorem dX10_sign_16 : decode cX10_sign 16 = .ok (.iload_n 1, 1) := by decide +kernel
theorem dX10_sign_17 : decode cX10_sign 17 = .ok (.iload_n 2, 1) := by decide +kernel
theorem dX10_sign_18 : decode cX10_sign 18 = .ok (.if_icmp .eq 30, 3) := by decide +kernel
theorem dX10_sign_21 : decode cX10_sign 21 = .ok (.aload_n 0, 1) := by decide +kernel
theorem dX10_sign_22 : decode cX10_sign 22 = .ok (.iload_n 3, 1) := by decide +kernel
theorem dX10_sign_23 : decode cX10_sign 23 = .ok (.invokevirtual 151, 3) := by decide +kernel
theorem dX10_sign_26 : decode cX10_sign 26 = .ok (.ifCond .eq 22, 3) := by decide +kernel
theorem dX10_sign_29 : decode cX10_sign 29 = .ok (.iload 4, 2) := by decide +kernel
theorem dX10_sign_31 : decode cX10_sign 31 = .ok (.iconst 0, 1) := by decide +kernel
theorem dX10_sign_32 : decode cX10_sign 32 = .ok (.bipush 9, 2) := by decide +kernel
theorem dX10_sign_34 : decode cX10_sign 34 = .ok (.invokestatic 91, 3) := by decide +kernel
theorem dX10_sign_37 : decode cX10_sign 37 = .ok (.ifCond .eq 11, 3) := by decide +kernel
theorem dX10_sign_40 : decode cX10_sign 40 = .ok (.iload 5, 2) := by decide +kernel
theorem dX10_sign_42 : decode cX10_sign 42 = .ok (.invokestatic 95, 3) := by decide +kernel
theorem dX10_sign_45 : decode cX10_sign 45 = .ok (.ifCond .ne 5, 3) := by decide +kernel
theorem dX10_sign_48 : decode cX10_sign 48 = .ok (.iconst (-1), 1) := by decide +kernel
theorem dX10_sign_49 : decode cX10_sign 49 = .ok (.ireturn, 1) := by decide +kernel
theorem dX10_sign_50 : decode cX10_sign 50 = .ok (.aload_n 0, 1) := by decide +kernel
theorem dX10_sign_51 : decode cX10_sign 51 = .ok (.iload_n 1, 1) := by decide +kernel
theorem dX10_sign_52 : decode cX10_sign 52 = .ok (.iload_n 2, 1) := by decide +kernel
theorem dX10_sign_53 : decode cX10_sign 53 = .ok (.iload_n 3, 1) := by decide +kernel
theorem dX10_sign_54 : decode cX10_sign 54 = .ok (.iload 4, 2) := by decide +kernel
theorem dX10_sign_56 : decode cX10_sign 56 = .ok (.invokevirtual 325, 3) := by decide +kernel
theorem dX10_sign_59 : decode cX10_sign 59 = .ok (.aload_n 0, 1) := by decide +kernel
theorem dX10_sign_60 : decode cX10_sign 60 = .ok (.iload 5, 2) := by decide +kernel
theorem dX10_sign_62 : decode cX10_sign 62 = .ok (.aload_n 0, 1) := by decide +kernel
theorem dX10_sign_63 : decode cX10_sign 63 = .ok (.getfield 171, 3) := by decide +kernel
theorem dX10_sign_66 : decode cX10_sign 66 = .ok (.invokevirtual 203, 3) := by decide +kernel
theorem dX10_sign_69 : decode cX10_sign 69 = .ok (.ireturn, 1) := by decide +kernel
theorem dX10_stranger_0 : decode cX10_stranger 0 = .ok (.aload_n 0, 1) := by decide +kernel
theorem dX10_stranger_1 : decode cX10_stranger 1 = .ok (.iload_n 1, 1) := by decide +kernel
theorem dX10_stranger_2 : decode cX10_stranger 2 = .ok (.invokevirtual 162, 3) := by decide +kernel
theorem dX10_stranger_5 : decode cX10_stranger 5 = .ok (.ifCond .eq 45, 3) := by decide +kernel
theorem dX10_stranger_8 : decode cX10_stranger 8 = .ok (.aload_n 0, 1) := by decide +kernel
theorem dX10_stranger_9 : decode cX10_stranger 9 = .ok (.iload_n 2, 1) := by decide +kernel
theorem dX10_stranger_10 : decode cX10_stranger 10 = .ok (.invokevirtual 162, 3) := by decide +kernel
theorem dX10_stranger_13 : decode cX10_stranger 13 = .ok (.ifCond .eq 37, 3) := by decide +kernel
theorem dX10_stranger_16 : decode cX10_stranger 16 = .ok (.aload_n 0, 1) := by decide +kernel
theorem dX10_stranger_17 : decode cX10_stranger 17 = .ok (.iload 4, 2) := by decide +kernel
theorem dX10_stranger_19 : decode cX10_stranger 19 = .ok (.invokevirtual 162, 3) := by decide +kernel
theorem dX10_stranger_22 : decode cX10_stranger 22 = .ok (.ifCond .eq 28, 3) := by decide +kernel
theorem dX10_stranger_25 : decode cX10_stranger 25 = .ok (.iload_n 1, 1) := by decide +kernel
theorem dX10_stranger_26 : decode cX10_stranger 26 = .ok (.iload_n 2, 1) := by decide +kernel
theorem dX10_stranger_27 : decode cX10_stranger 27 = .ok (.if_icmp .eq 23, 3) := by decide +kernel
theorem dX10_stranger_30 : decode cX10_stranger 30 = .ok (.iload 4, 2) := by decide +kernel
theorem dX10_stranger_32 : decode cX10_stranger 32 = .ok (.iload_n 1, 1) := by decide +kernel
theorem dX10_stranger_33 : decode cX10_stranger 33 = .ok (.if_icmp .eq 17, 3) := by decide +kernel
theorem dX10_stranger_36 : decode cX10_stranger 36 = .ok (.iload 4, 2) := by decide +kernel
theorem dX10_stranger_38 : decode cX10_stranger 38 = .ok (.iload_n 2, 1) := by decide +kernel
theorem dX10_stranger_39 : decode cX10_stranger 39 = .ok (.if_icmp .eq 11, 3) := by decide +kernel
theorem dX10_stranger_42 : decode cX10_stranger 42 = .ok (.aload_n 0, 1) := by decide +kernel
theorem dX10_stranger_43 : decode cX10_stranger 43 = .ok (.iload_n 3, 1) := by decide +kernel
theorem dX10_stranger_44 : decode cX10_stranger 44 = .ok (.invokevirtual 151, 3) := by decide +kernel
theorem dX10_stranger_47 : decode cX10_stranger 47 = .ok (.ifCond .ne 5, 3) := by decide +kernel
theorem dX10_stranger_50 : decode cX10_stranger 50 = .ok (.iconst (-1), 1) := by decide +kernel
theorem dX10_stranger_51 : decode cX10_stranger 51 = .ok (.ireturn, 1) := by decide +kernel
theorem dX10_stranger_52 : decode cX10_stranger 52 = .ok (.iconst 0, 1) := by decide +kernel
theorem dX10_stranger_53 : decode cX10_stranger 53 = .ok (.istore 5, 2) := by decide +kernel
theorem dX10_stranger_55 : decode cX10_stranger 55 = .ok (.iload 5, 2) := by decide +kernel
theorem dX10_stranger_57 : decode cX10_stranger 57 = .ok (.bipush 9, 2) := by decide +kernel
theorem dX10_stranger_59 : decode cX10_stranger 59 = .ok (.if_icmp .gt 49, 3) := by decide +kernel
theorem dX10_stranger_62 : decode cX10_stranger 62 = .ok (.aload_n 0, 1) := by decide +kernel
theorem dX10_stranger_63 : decode cX10_stranger 63 = .ok (.iload_n 1, 1) := by decide +kernel
theorem dX10_stranger_64 : decode cX10_stranger 64 = .ok (.iload_n 2, 1) := by decide +kernel
theorem dX10_stranger_65 : decode cX10_stranger 65 = .ok (.iload_n 3, 1) := by decide +kernel
theorem dX10_stranger_66 : decode cX10_stranger 66 = .ok (.iload 5, 2) := by decide +kernel
theorem dX10_stranger_68 : decode cX10_stranger 68 = .ok (.invokevirtual 325, 3) := by decide +kernel
theorem dX10_stranger_71 : decode cX10_stranger 71 = .ok (.aload_n 0, 1) := by decide +kernel
theorem dX10_stranger_72 : decode cX10_stranger 72 = .ok (.invokevirtual 187, 3) := by decide +kernel
theorem dX10_stranger_75 : decode cX10_stranger 75 = .ok (.aload_n 0, 1) := by decide +kernel
theorem dX10_stranger_76 : decode cX10_stranger 76 = .ok (.iload 4, 2) := by decide +kernel
theorem dX10_stranger_78 : decode cX10_stranger 78 = .ok (.bipush (-9), 2) := by decide +kernel
theorem dX10_stranger_80 : decode cX10_stranger 80 = .ok (.invokevirtual 193, 3) := by decide +kernel
theorem dX10_stranger_83 : decode cX10_stranger 83 = .ok (.aload_n 0, 1) := by decide +kernel
theorem dX10_stranger_84 : decode cX10_stranger 84 = .ok (.invokevirtual 200, 3) := by decide +kernel
theorem dX10_stranger_87 : decode cX10_stranger 87 = .ok (.iload_n 3, 1) := by decide +kernel
theorem dX10_stranger_88 : decode cX10_stranger 88 = .ok (.if_icmp .eq 14, 3) := by decide +kernel
theorem dX10_stranger_91 : decode cX10_stranger 91 = .ok (.aload_n 0, 1) := by decide +kernel
theorem dX10_stranger_92 : decode cX10_stranger 92 = .ok (.aload_n 0, 1) := by decide +kernel
theorem dX10_stranger_93 : decode cX10_stranger 93 = .ok (.invokevirtual 200, 3) := by decide +kernel
theorem dX10_stranger_96 : decode cX10_stranger 96 = .ok (.iload 5, 2) := by decide +kernel
theorem dX10_stranger_98 : decode cX10_stranger 98 = .ok (.invokevirtual 117, 3) := by decide +kernel
theorem dX10_stranger_101 : decode cX10_stranger 101 = .ok (.ireturn, 1) := by decide +kernel
theorem dX10_stranger_102 : decode cX10_stranger 102 = .ok (.iinc 5 1, 3) := by decide +kernel
theorem dX10_stranger_105 : decode cX10_stranger 105 = .ok (.goto (-50), 3) := by decide +kernel
theorem dX10_stranger_108 : decode cX10_stranger 108 = .ok (.bipush (-9), 2) := by decide +kernel
theorem dX10_stranger_110 : decode cX10_stranger 110 = .ok (.ireturn, 1) := by decide +kernel
theorem dX10_image_0 : decode cX10_image 0 = .ok (.iload_n 1, 1) := by decide +kernel
theorem dX10_image_1 : decode cX10_image 1 = .ok (.invokestatic 95, 3) := by decide +kernel
theorem dX10_image_4 : decode cX10_image 4 = .ok (.ifCond .ne 5, 3) := by decide +kernel
theorem dX10_image_7 : decode cX10_image 7 = .ok (.iconst (-1), 1) := by decide +kernel
theorem dX10_image_8 : decode cX10_image 8 = .ok (.ireturn, 1) := by decide +kernel
theorem dX10_image_9 : decode cX10_image 9 = .ok (.aload_n 0, 1) := by decide +kernel
theorem dX10_image_10 : decode cX10_image 10 = .ok (.iload_n 1, 1) := by decide +kernel
theorem dX10_image_11 : decode cX10_image 11 = .ok (.aload_n 0, 1) := by decide +kernel
theorem dX10_image_12 : decode cX10_image 12 = .ok (.getfield 138, 3) := by decide +kernel
theorem dX10_image_15 : decode cX10_image 15 = .ok (.invokevirtual 206, 3) := by decide +kernel
theorem dX10_image_18 : decode cX10_image 18 = .ok (.pop, 1) := by decide +kernel
theorem dX10_image_19 : decode cX10_image 19 = .ok (.iconst 0, 1) := by decide +kernel
theorem dX10_image_20 : decode cX10_image 20 = .ok (.istore_n 2, 1) := by decide +kernel
theorem dX10_image_21 : decode cX10_image 21 = .ok (.iload_n 2, 1) := by decide +kernel
theorem dX10_image_22 : decode cX10_image 22 = .ok (.aload_n 0, 1) := by decide +kernel
theorem dX10_image_23 : decode cX10_image 23 = .ok (.getfield 138, 3) := by decide +kernel
theorem dX10_image_26 : decode cX10_image 26 = .ok (.if_icmp .ge 52, 3) := by decide +kernel
theorem dX10_image_29 : decode cX10_image 29 = .ok (.aload_n 0, 1) := by decide +kernel
theorem dX10_image_30 : decode cX10_image 30 = .ok (.iload_n 1, 1) := by decide +kernel
theorem dX10_image_31 : decode cX10_image 31 = .ok (.iload_n 2, 1) := by decide +kernel
theorem dX10_image_32 : decode cX10_image 32 = .ok (.sipush 1000, 3) := by decide +kernel
theorem dX10_image_35 : decode cX10_image 35 = .ok (.aload_n 0, 1) := by decide +kernel
theorem dX10_image_36 : decode cX10_image 36 = .ok (.iload_n 2, 1) := by decide +kernel
theorem dX10_image_37 : decode cX10_image 37 = .ok (.iconst 0, 1) := by decide +kernel
theorem dX10_image_38 : decode cX10_image 38 = .ok (.invokevirtual 165, 3) := by decide +kernel
theorem dX10_image_41 : decode cX10_image 41 = .ok (.imul, 1) := by decide +kernel
theorem dX10_image_42 : decode cX10_image 42 = .ok (.bipush 100, 2) := by decide +kernel
theorem dX10_image_44 : decode cX10_image 44 = .ok (.aload_n 0, 1) := by decide +kernel
theorem dX10_image_45 : decode cX10_image 45 = .ok (.iload_n 2, 1) := by decide +kernel
theorem dX10_image_46 : decode cX10_image 46 = .ok (.iconst 1, 1) := by decide +kernel
theorem dX10_image_47 : decode cX10_image 47 = .ok (.invokevirtual 165, 3) := by decide +kernel
theorem dX10_image_50 : decode cX10_image 50 = .ok (.imul, 1) := by decide +kernel
theorem dX10_image_51 : decode cX10_image 51 = .ok (.iadd, 1) := by decide +kernel
theorem dX10_image_52 : decode cX10_image 52 = .ok (.bipush 10, 2) := by decide +kernel
theorem dX10_image_54 : decode cX10_image 54 = .ok (.aload_n 0, 1) := by decide +kernel
theorem dX10_image_55 : decode cX10_image 55 = .ok (.iload_n 2, 1) := by decide +kernel
theorem dX10_image_56 : decode cX10_image 56 = .ok (.iconst 2, 1) := by decide +kernel
theorem dX10_image_57 : decode cX10_image 57 = .ok (.invokevirtual 165, 3) := by decide +kernel
theorem dX10_image_60 : decode cX10_image 60 = .ok (.imul, 1) := by decide +kernel
theorem dX10_image_61 : decode cX10_image 61 = .ok (.iadd, 1) := by decide +kernel
theorem dX10_image_62 : decode cX10_image 62 = .ok (.aload_n 0, 1) := by decide +kernel
theorem dX10_image_63 : decode cX10_image 63 = .ok (.iload_n 2, 1) := by decide +kernel
theorem dX10_image_64 : decode cX10_image 64 = .ok (.iconst 3, 1) := by decide +kernel
theorem dX10_image_65 : decode cX10_image 65 = .ok (.invokevirtual 165, 3) := by decide +kernel
theorem dX10_image_68 : decode cX10_image 68 = .ok (.iadd, 1) := by decide +kernel
theorem dX10_image_69 : decode cX10_image 69 = .ok (.invokevirtual 106, 3) := by decide +kernel
theorem dX10_image_72 : decode cX10_image 72 = .ok (.iinc 2 1, 3) := by decide +kernel
theorem dX10_image_75 : decode cX10_image 75 = .ok (.goto (-54), 3) := by decide +kernel
theorem dX10_image_78 : decode cX10_image 78 = .ok (.aload_n 0, 1) := by decide +kernel
theorem dX10_image_79 : decode cX10_image 79 = .ok (.getfield 138, 3) := by decide +kernel
theorem dX10_image_82 : decode cX10_image 82 = .ok (.ireturn, 1) := by decide +kernel
theorem dX10_isPlayerBy_0 : decode cX10_isPlayerBy 0 = .ok (.iload_n 1, 1) := by decide +kernel
theorem dX10_isPlayerBy_1 : decode cX10_isPlayerBy 1 = .ok (.iconst 0, 1) := by decide +kernel
theorem dX10_isPlayerBy_2 : decode cX10_isPlayerBy 2 = .ok (.sipush 5999, 3) := by decide +kernel
theorem dX10_isPlayerBy_5 : decode cX10_isPlayerBy 5 = .ok (.invokestatic 91, 3) := by decide +kernel
theorem dX10_isPlayerBy_8 : decode cX10_isPlayerBy 8 = .ok (.ifCond .eq 59, 3) := by decide +kernel
theorem dX10_isPlayerBy_11 : decode cX10_isPlayerBy 11 = .ok (.iload_n 1, 1) := by decide +kernel
theorem dX10_isPlayerBy_12 : decode cX10_isPlayerBy 12 = .ok (.bipush 100, 2) := by decide +kernel
theorem dX10_isPlayerBy_14 : decode cX10_isPlayerBy 14 = .ok (.idiv, 1) := by decide +kernel
theorem dX10_isPlayerBy_15 : decode cX10_isPlayerBy 15 = .ok (.bipush 10, 2) := by decide +kernel
theorem dX10_isPlayerBy_17 : decode cX10_isPlayerBy 17 = .ok (.irem, 1) := by decide +kernel
theorem dX10_isPlayerBy_18 : decode cX10_isPlayerBy 18 = .ok (.iconst 2, 1) := by decide +kernel
theorem dX10_isPlayerBy_19 : decode cX10_isPlayerBy 19 = .ok (.if_icmp .ge 48, 3) := by decide +kernel
theorem dX10_isPlayerBy_22 : decode cX10_isPlayerBy 22 = .ok (.aload_n 0, 1) := by decide +kernel
theorem dX10_isPlayerBy_23 : decode cX10_isPlayerBy 23 = .ok (.iload_n 1, 1) := by decide +kernel
theorem dX10_isPlayerBy_24 : decode cX10_isPlayerBy 24 = .ok (.bipush 100, 2) := by decide +kernel
theorem dX10_isPlayerBy_26 : decode cX10_isPlayerBy 26 = .ok (.idiv, 1) := by decide +kernel
theorem dX10_isPlayerBy_27 : decode cX10_isPlayerBy 27 = .ok (.bipush 10, 2) := by decide +kernel
theorem dX10_isPlayerBy_29 : decode cX10_isPlayerBy 29 = .ok (.irem, 1) := by decide +kernel
theorem dX10_isPlayerBy_30 : decode cX10_isPlayerBy 30 = .ok (.invokevirtual 148, 3) := by decide +kernel
theorem dX10_isPlayerBy_33 : decode cX10_isPlayerBy 33 = .ok (.ifCond .eq 34, 3) := by decide +kernel
theorem dX10_isPlayerBy_36 : decode cX10_isPlayerBy 36 = .ok (.iload_n 1, 1) := by decide +kernel
theorem dX10_isPlayerBy_37 : decode cX10_isPlayerBy 37 = .ok (.bipush 10, 2) := by decide +kernel
theorem dX10_isPlayerBy_39 : decode cX10_isPlayerBy 39 = .ok (.idiv, 1) := by decide +kernel
theorem dX10_isPlayerBy_40 : decode cX10_isPlayerBy 40 = .ok (.bipush 10, 2) := by decide +kernel
theorem dX10_isPlayerBy_42 : decode cX10_isPlayerBy 42 = .ok (.irem, 1) := by decide +kernel
theorem dX10_isPlayerBy_43 : decode cX10_isPlayerBy 43 = .ok (.iconst 1, 1) := by decide +kernel
theorem dX10_isPlayerBy_44 : decode cX10_isPlayerBy 44 = .ok (.bipush 6, 2) := by decide +kernel
theorem dX10_isPlayerBy_46 : decode cX10_isPlayerBy 46 = .ok (.invokestatic 91, 3) := by decide +kernel
theorem dX10_isPlayerBy_49 : decode cX10_isPlayerBy 49 = .ok (.ifCond .eq 18, 3) := by decide +kernel
theorem dX10_isPlayerBy_52 : decode cX10_isPlayerBy 52 = .ok (.aload_n 0, 1) := by decide +kernel
theorem dX10_isPlayerBy_53 : decode cX10_isPlayerBy 53 = .ok (.iload_n 1, 1) := by decide +kernel
theorem dX10_isPlayerBy_54 : decode cX10_isPlayerBy 54 = .ok (.bipush 10, 2) := by decide +kernel
theorem dX10_isPlayerBy_56 : decode cX10_isPlayerBy 56 = .ok (.irem, 1) := by decide +kernel
theorem dX10_isPlayerBy_57 : decode cX10_isPlayerBy 57 = .ok (.invokevirtual 151, 3) := by decide +kernel
theorem dX10_isPlayerBy_60 : decode cX10_isPlayerBy 60 = .ok (.ifCond .eq 7, 3) := by decide +kernel
theorem dX10_isPlayerBy_63 : decode cX10_isPlayerBy 63 = .ok (.iconst 1, 1) := by decide +kernel
theorem dX10_isPlayerBy_64 : decode cX10_isPlayerBy 64 = .ok (.goto 4, 3) := by decide +kernel
theorem dX10_isPlayerBy_67 : decode cX10_isPlayerBy 67 = .ok (.iconst 0, 1) := by decide +kernel
theorem dX10_isPlayerBy_68 : decode cX10_isPlayerBy 68 = .ok (.ireturn, 1) := by decide +kernel
theorem dX10_on_0 : decode cX10_on 0 = .ok (.aload_n 0, 1) := by decide +kernel
theorem dX10_on_1 : decode cX10_on 1 = .ok (.iload_n 1, 1) := by decide +kernel
theorem dX10_on_2 : decode cX10_on 2 = .ok (.invokevirtual 110, 3) := by decide +kernel
theorem dX10_on_5 : decode cX10_on 5 = .ok (.istore_n 2, 1) := by decide +kernel
theorem dX10_on_6 : decode cX10_on 6 = .ok (.iload_n 2, 1) := by decide +kernel
theorem dX10_on_7 : decode cX10_on 7 = .ok (.ifCond .ge 5, 3) := by decide +kernel
theorem dX10_on_10 : decode cX10_on 10 = .ok (.iload_n 2, 1) := by decide +kernel
theorem dX10_on_11 : decode cX10_on 11 = .ok (.ireturn, 1) := by decide +kernel
theorem dX10_on_12 : decode cX10_on 12 = .ok (.aload_n 0, 1) := by decide +kernel
theorem dX10_on_13 : decode cX10_on 13 = .ok (.getfield 17, 3) := by decide +kernel
theorem dX10_on_16 : decode cX10_on 16 = .ok (.iload_n 1, 1) := by decide +kernel
theorem dX10_on_17 : decode cX10_on 17 = .ok (.iaload, 1) := by decide +kernel
theorem dX10_on_18 : decode cX10_on 18 = .ok (.bipush 8, 2) := by decide +kernel
theorem dX10_on_20 : decode cX10_on 20 = .ok (.if_icmp .le 9, 3) := by decide +kernel
theorem dX10_on_23 : decode cX10_on 23 = .ok (.aload_n 0, 1) := by decide +kernel
theorem dX10_on_24 : decode cX10_on 24 = .ok (.iconst 5, 1) := by decide +kernel
theorem dX10_on_25 : decode cX10_on 25 = .ok (.invokevirtual 99, 3) := by decide +kernel
theorem dX10_on_28 : decode cX10_on 28 = .ok (.ireturn, 1) := by decide +kernel
theorem dX10_on_29 : decode cX10_on 29 = .ok (.iconst 0, 1) := by decide +kernel
theorem dX10_on_30 : decode cX10_on 30 = .ok (.istore_n 3, 1) := by decide +kernel
theorem dX10_on_31 : decode cX10_on 31 = .ok (.iload_n 3, 1) := by decide +kernel
theorem dX10_on_32 : decode cX10_on 32 = .ok (.aload_n 0, 1) := by decide +kernel
theorem dX10_on_33 : decode cX10_on 33 = .ok (.getfield 17, 3) := by decide +kernel
theorem dX10_on_36 : decode cX10_on 36 = .ok (.iload_n 1, 1) := by decide +kernel
theorem dX10_on_37 : decode cX10_on 37 = .ok (.iaload, 1) := by decide +kernel
theorem dX10_on_38 : decode cX10_on 38 = .ok (.if_icmp .ge 28, 3) := by decide +kernel
theorem dX10_on_41 : decode cX10_on 41 = .ok (.aload_n 0, 1) := by decide +kernel
theorem dX10_on_42 : decode cX10_on 42 = .ok (.aload_n 0, 1) := by decide +kernel
theorem dX10_on_43 : decode cX10_on 43 = .ok (.iload_n 1, 1) := by decide +kernel
theorem dX10_on_44 : decode cX10_on 44 = .ok (.iload_n 3, 1) := by decide +kernel
theorem dX10_on_45 : decode cX10_on 45 = .ok (.invokevirtual 113, 3) := by decide +kernel
theorem dX10_on_48 : decode cX10_on 48 = .ok (.invokevirtual 329, 3) := by decide +kernel
theorem dX10_on_51 : decode cX10_on 51 = .ok (.ifCond .ne 9, 3) := by decide +kernel
theorem dX10_on_54 : decode cX10_on 54 = .ok (.aload_n 0, 1) := by decide +kernel
theorem dX10_on_55 : decode cX10_on 55 = .ok (.iconst 3, 1) := by decide +kernel
theorem dX10_on_56 : decode cX10_on 56 = .ok (.invokevirtual 99, 3) := by decide +kernel
theorem dX10_on_59 : decode cX10_on 59 = .ok (.ireturn, 1) := by decide +kernel
theorem dX10_on_60 : decode cX10_on 60 = .ok (.iinc 3 1, 3) := by decide +kernel
theorem dX10_on_63 : decode cX10_on 63 = .ok (.goto (-32), 3) := by decide +kernel
theorem dX10_on_66 : decode cX10_on 66 = .ok (.aload_n 0, 1) := by decide +kernel
theorem dX10_on_67 : decode cX10_on 67 = .ok (.aload_n 0, 1) := by decide +kernel
theorem dX10_on_68 : decode cX10_on 68 = .ok (.getfield 17, 3) := by decide +kernel
theorem dX10_on_71 : decode cX10_on 71 = .ok (.iload_n 1, 1) := by decide +kernel
theorem dX10_on_72 : decode cX10_on 72 = .ok (.iaload, 1) := by decide +kernel
theorem dX10_on_73 : decode cX10_on 73 = .ok (.putfield 138, 3) := by decide +kernel
theorem dX10_on_76 : decode cX10_on 76 = .ok (.iconst 0, 1) := by decide +kernel
theorem dX10_on_77 : decode cX10_on 77 = .ok (.istore_n 3, 1) := by decide +kernel
theorem dX10_on_78 : decode cX10_on 78 = .ok (.iload_n 3, 1) := by decide +kernel
theorem dX10_on_79 : decode cX10_on 79 = .ok (.aload_n 0, 1) := by decide +kernel
theorem dX10_on_80 : decode cX10_on 80 = .ok (.getfield 138, 3) := by decide +kernel
theorem dX10_on_83 : decode cX10_on 83 = .ok (.if_icmp .ge 49, 3) := by decide +kernel
theorem dX10_on_86 : decode cX10_on 86 = .ok (.aload_n 0, 1) := by decide +kernel
theorem dX10_on_87 : decode cX10_on 87 = .ok (.iload_n 1, 1) := by decide +kernel
theorem dX10_on_88 : decode cX10_on 88 = .ok (.iload_n 3, 1) := by decide +kernel
theorem dX10_on_89 : decode cX10_on 89 = .ok (.invokevirtual 113, 3) := by decide +kernel
theorem dX10_on_92 : decode cX10_on 92 = .ok (.istore 4, 2) := by decide +kernel
theorem dX10_on_94 : decode cX10_on 94 = .ok (.aload_n 0, 1) := by decide +kernel
theorem dX10_on_95 : decode cX10_on 95 = .ok (.iload_n 3, 1) := by decide +kernel
theorem dX10_on_96 : decode cX10_on 96 = .ok (.iload 4, 2) := by decide +kernel
theorem dX10_on_98 : decode cX10_on 98 = .ok (.sipush 1000, 3) := by decide +kernel
theorem dX10_on_101 : decode cX10_on 101 = .ok (.idiv, 1) := by decide +kernel
theorem dX10_on_102 : decode cX10_on 102 = .ok (.iload 4, 2) := by decide +kernel
theorem dX10_on_104 : decode cX10_on 104 = .ok (.bipush 100, 2) := by decide +kernel
theorem dX10_on_106 : decode cX10_on 106 = .ok (.idiv, 1) := by decide +kernel
theorem dX10_on_107 : decode cX10_on 107 = .ok (.bipush 10, 2) := by decide +kernel
theorem dX10_on_109 : decode cX10_on 109 = .ok (.irem, 1) := by decide +kernel
theorem dX10_on_110 : decode cX10_on 110 = .ok (.iload 4, 2) := by decide +kernel
theorem dX10_on_112 : decode cX10_on 112 = .ok (.bipush 10, 2) := by decide +kernel
theorem dX10_on_114 : decode cX10_on 114 = .ok (.idiv, 1) := by decide +kernel
theorem dX10_on_115 : decode cX10_on 115 = .ok (.bipush 10, 2) := by decide +kernel
theorem dX10_on_117 : decode cX10_on 117 = .ok (.irem, 1) := by decide +kernel
theorem dX10_on_118 : decode cX10_on 118 = .ok (.iload 4, 2) := by decide +kernel
theorem dX10_on_120 : decode cX10_on 120 = .ok (.bipush 10, 2) := by decide +kernel
theorem dX10_on_122 : decode cX10_on 122 = .ok (.irem, 1) := by decide +kernel
theorem dX10_on_123 : decode cX10_on 123 = .ok (.invokevirtual 158, 3) := by decide +kernel
theorem dX10_on_126 : decode cX10_on 126 = .ok (.iinc 3 1, 3) := by decide +kernel
theorem dX10_on_129 : decode cX10_on 129 = .ok (.goto (-51), 3) := by decide +kernel
theorem dX10_on_132 : decode cX10_on 132 = .ok (.aload_n 0, 1) := by decide +kernel
theorem dX10_on_133 : decode cX10_on 133 = .ok (.iconst 0, 1) := by decide +kernel
theorem dX10_on_134 : decode cX10_on 134 = .ok (.putfield 141, 3) := by decide +kernel
theorem dX10_on_137 : decode cX10_on 137 = .ok (.aload_n 0, 1) := by decide +kernel
theorem dX10_on_138 : decode cX10_on 138 = .ok (.getfield 138, 3) := by decide +kernel
theorem dX10_on_141 : decode cX10_on 141 = .ok (.ireturn, 1) := by decide +kernel
theorem dX10_asked_0 : decode cX10_asked 0 = .ok (.aload_n 0, 1) := by decide +kernel
theorem dX10_asked_1 : decode cX10_asked 1 = .ok (.getfield 85, 3) := by decide +kernel
theorem dX10_asked_4 : decode cX10_asked 4 = .ok (.ireturn, 1) := by decide +kernel
theorem dX10_upper_0 : decode cX10_upper 0 = .ok (.aload_n 0, 1) := by decide +kernel
theorem dX10_upper_1 : decode cX10_upper 1 = .ok (.getfield 88, 3) := by decide +kernel
theorem dX10_upper_4 : decode cX10_upper 4 = .ok (.lreturn, 1) := by decide +kernel
theorem dX10_lower_0 : decode cX10_lower 0 = .ok (.aload_n 0, 1) := by decide +kernel
theorem dX10_lower_1 : decode cX10_lower 1 = .ok (.getfield 13, 3) := by decide +kernel
theorem dX10_lower_4 : decode cX10_lower 4 = .ok (.lreturn, 1) := by decide +kernel
theorem dX10_counts_0 : decode cX10_counts 0 = .ok (.iconst 0, 1) := by decide +kernel
theorem dX10_counts_1 : decode cX10_counts 1 = .ok (.istore_n 2, 1) := by decide +kernel
theorem dX10_counts_2 : decode cX10_counts 2 = .ok (.iconst 0, 1) := by decide +kernel
theorem dX10_counts_3 : decode cX10_counts 3 = .ok (.istore_n 3, 1) := by decide +kernel
theorem dX10_counts_4 : decode cX10_counts 4 = .ok (.iload_n 3, 1) := by decide +kernel
theorem dX10_counts_5 : decode cX10_counts 5 = .ok (.bipush 8, 2) := by decide +kernel
theorem dX10_counts_7 : decode cX10_counts 7 = .ok (.if_icmp .ge 97, 3) := by decide +kernel
theorem dX10_counts_10 : decode cX10_counts 10 = .ok (.iload_n 2, 1) := by decide +kernel
theorem dX10_counts_11 : decode cX10_counts 11 = .ok (.iload_n 1, 1) := by decide +kernel
theorem dX10_counts_12 : decode cX10_counts 12 = .ok (.bipush 6, 2) := by decide +kernel
theorem dX10_counts_14 : decode cX10_counts 14 = .ok (.if_icmp .ne 18, 3) := by decide +kernel
theorem dX10_counts_17 : decode cX10_counts 17 = .ok (.iload_n 3, 1) := by decide +kernel
theorem dX10_counts_18 : decode cX10_counts 18 = .ok (.bipush 6, 2) := by decide +kernel
theorem dX10_counts_20 : decode cX10_counts 20 = .ok (.if_icmp .ge 12, 3) := by decide +kernel
theorem dX10_counts_23 : decode cX10_counts 23 = .ok (.aload_n 0, 1) := by decide +kernel
theorem dX10_counts_24 : decode cX10_counts 24 = .ok (.getfield 17, 3) := by decide +kernel
theorem dX10_counts_27 : decode cX10_counts 27 = .ok (.iload_n 3, 1) := by decide +kernel
theorem dX10_counts_28 : decode cX10_counts 28 = .ok (.iaload, 1) := by decide +kernel
theorem dX10_counts_29 : decode cX10_counts 29 = .ok (.ifCond .ge 62, 3) := by decide +kernel
theorem dX10_counts_32 : decode cX10_counts 32 = .ok (.iload_n 1, 1) := by decide +kernel
theorem dX10_counts_33 : decode cX10_counts 33 = .ok (.bipush 7, 2) := by decide +kernel
theorem dX10_counts_35 : decode cX10_counts 35 = .ok (.if_icmp .ne 17, 3) := by decide +kernel
theorem dX10_counts_38 : decode cX10_counts 38 = .ok (.iload_n 3, 1) := by decide +kernel
theorem dX10_counts_39 : decode cX10_counts 39 = .ok (.iconst 4, 1) := by decide +kernel
theorem dX10_counts_40 : decode cX10_counts 40 = .ok (.if_icmp .ge 12, 3) := by decide +kernel
theorem dX10_counts_43 : decode cX10_counts 43 = .ok (.aload_n 0, 1) := by decide +kernel
theorem dX10_counts_44 : decode cX10_counts 44 = .ok (.getfield 26, 3) := by decide +kernel
theorem dX10_counts_47 : decode cX10_counts 47 = .ok (.iload_n 3, 1) := by decide +kernel
theorem dX10_counts_48 : decode cX10_counts 48 = .ok (.iaload, 1) := by decide +kernel
theorem dX10_counts_49 : decode cX10_counts 49 = .ok (.ifCond .ge 42, 3) := by decide +kernel
theorem dX10_counts_52 : decode cX10_counts 52 = .ok (.iload_n 1, 1) := by decide +kernel
theorem dX10_counts_53 : decode cX10_counts 53 = .ok (.iconst 1, 1) := by decide +kernel
theorem dX10_counts_54 : decode cX10_counts 54 = .ok (.if_icmp .ne 16, 3) := by decide +kernel
theorem dX10_counts_57 : decode cX10_counts 57 = .ok (.iload_n 3, 1) := by decide +kernel
theorem dX10_counts_58 : decode cX10_counts 58 = .ok (.iconst 2, 1) := by decide +kernel
theorem dX10_counts_59 : decode cX10_counts 59 = .ok (.if_icmp .ge 11, 3) := by decide +kernel
theorem dX10_counts_62 : decode cX10_counts 62 = .ok (.aload_n 0, 1) := by decide +kernel
theorem dX10_counts_63 : decode cX10_counts 63 = .ok (.iload_n 3, 1) := by decide +kernel
theorem dX10_counts_64 : decode cX10_counts 64 = .ok (.invokevirtual 148, 3) := by decide +kernel
theorem dX10_counts_67 : decode cX10_counts 67 = .ok (.ifCond .ne 24, 3) := by decide +kernel
theorem dX10_counts_70 : decode cX10_counts 70 = .ok (.iload_n 1, 1) := by decide +kernel
theorem dX10_counts_71 : decode cX10_counts 71 = .ok (.iconst 3, 1) := by decide +kernel
theorem dX10_counts_72 : decode cX10_counts 72 = .ok (.if_icmp .ne 23, 3) := by decide +kernel
theorem dX10_counts_75 : decode cX10_counts 75 = .ok (.iload_n 3, 1) := by decide +kernel
theorem dX10_counts_76 : decode cX10_counts 76 = .ok (.aload_n 0, 1) := by decide +kernel
theorem dX10_counts_77 : decode cX10_counts 77 = .ok (.getfield 138, 3) := by decide +kernel
theorem dX10_counts_80 : decode cX10_counts 80 = .ok (.if_icmp .ge 15, 3) := by decide +kernel
theorem dX10_counts_83 : decode cX10_counts 83 = .ok (.aload_n 0, 1) := by decide +kernel
theorem dX10_counts_84 : decode cX10_counts 84 = .ok (.iload_n 3, 1) := by decide +kernel
theorem dX10_counts_85 : decode cX10_counts 85 = .ok (.invokevirtual 168, 3) := by decide +kernel
theorem dX10_counts_88 : decode cX10_counts 88 = .ok (.ifCond .eq 7, 3) := by decide +kernel
theorem dX10_counts_91 : decode cX10_counts 91 = .ok (.iconst 1, 1) := by decide +kernel
theorem dX10_counts_92 : decode cX10_counts 92 = .ok (.goto 4, 3) := by decide +kernel
theorem dX10_counts_95 : decode cX10_counts 95 = .ok (.iconst 0, 1) := by decide +kernel
theorem dX10_counts_96 : decode cX10_counts 96 = .ok (.iadd, 1) := by decide +kernel
theorem dX10_counts_97 : decode cX10_counts 97 = .ok (.istore_n 2, 1) := by decide +kernel
theorem dX10_counts_98 : decode cX10_counts 98 = .ok (.iinc 3 1, 3) := by decide +kernel
theorem dX10_counts_101 : decode cX10_counts 101 = .ok (.goto (-97), 3) := by decide +kernel
theorem dX10_counts_104 : decode cX10_counts 104 = .ok (.iconst 0, 1) := by decide +kernel
theorem dX10_counts_105 : decode cX10_counts 105 = .ok (.istore_n 3, 1) := by decide +kernel
theorem dX10_counts_106 : decode cX10_counts 106 = .ok (.iload_n 3, 1) := by decide +kernel
theorem dX10_counts_107 : decode cX10_counts 107 = .ok (.aload_n 0, 1) := by decide +kernel
theorem dX10_counts_108 : decode cX10_counts 108 = .ok (.getfield 141, 3) := by decide +kernel
theorem dX10_counts_111 : decode cX10_counts 111 = .ok (.if_icmp .ge 23, 3) := by decide +kernel
theorem dX10_counts_114 : decode cX10_counts 114 = .ok (.iload_n 1, 1) := by decide +kernel
theorem dX10_counts_115 : decode cX10_counts 115 = .ok (.iconst 5, 1) := by decide +kernel
theorem dX10_counts_116 : decode cX10_counts 116 = .ok (.if_icmp .ne 18, 3) := by decide +kernel
theorem dX10_counts_119 : decode cX10_counts 119 = .ok (.iload_n 2, 1) := by decide +kernel
theorem dX10_counts_120 : decode cX10_counts 120 = .ok (.aload_n 0, 1) := by decide +kernel
theorem dX10_counts_121 : decode cX10_counts 121 = .ok (.iload_n 3, 1) := by decide +kernel
theorem dX10_counts_122 : decode cX10_counts 122 = .ok (.iconst 0, 1) := by decide +kernel
theorem dX10_counts_123 : decode cX10_counts 123 = .ok (.invokevirtual 304, 3) := by decide +kernel
theorem dX10_counts_126 : decode cX10_counts 126 = .ok (.iadd, 1) := by decide +kernel
theorem dX10_counts_127 : decode cX10_counts 127 = .ok (.istore_n 2, 1) := by decide +kernel
theorem dX10_counts_128 : decode cX10_counts 128 = .ok (.iinc 3 1, 3) := by decide +kernel
theorem dX10_counts_131 : decode cX10_counts 131 = .ok (.goto (-25), 3) := by decide +kernel
theorem dX10_counts_134 : decode cX10_counts 134 = .ok (.iload_n 1, 1) := by decide +kernel
theorem dX10_counts_135 : decode cX10_counts 135 = .ok (.ifCond .ne 10, 3) := by decide +kernel
theorem dX10_counts_138 : decode cX10_counts 138 = .ok (.aload_n 0, 1) := by decide +kernel
theorem dX10_counts_139 : decode cX10_counts 139 = .ok (.invokevirtual 144, 3) := by decide +kernel
theorem dX10_counts_142 : decode cX10_counts 142 = .ok (.goto 28, 3) := by decide +kernel
theorem dX10_counts_145 : decode cX10_counts 145 = .ok (.iload_n 1, 1) := by decide +kernel
theorem dX10_counts_146 : decode cX10_counts 146 = .ok (.iconst 2, 1) := by decide +kernel
theorem dX10_counts_147 : decode cX10_counts 147 = .ok (.if_icmp .ne 10, 3) := by decide +kernel
theorem dX10_counts_150 : decode cX10_counts 150 = .ok (.aload_n 0, 1) := by decide +kernel
theorem dX10_counts_151 : decode cX10_counts 151 = .ok (.getfield 138, 3) := by decide +kernel
theorem dX10_counts_154 : decode cX10_counts 154 = .ok (.goto 16, 3) := by decide +kernel
theorem dX10_counts_157 : decode cX10_counts 157 = .ok (.iload_n 1, 1) := by decide +kernel
theorem dX10_counts_158 : decode cX10_counts 158 = .ok (.iconst 4, 1) := by decide +kernel
theorem dX10_counts_159 : decode cX10_counts 159 = .ok (.if_icmp .ne 10, 3) := by decide +kernel
theorem dX10_counts_162 : decode cX10_counts 162 = .ok (.aload_n 0, 1) := by decide +kernel
theorem dX10_counts_163 : decode cX10_counts 163 = .ok (.getfield 141, 3) := by decide +kernel
theorem dX10_counts_166 : decode cX10_counts 166 = .ok (.goto 4, 3) := by decide +kernel
theorem dX10_counts_169 : decode cX10_counts 169 = .ok (.iload_n 2, 1) := by decide +kernel
theorem dX10_counts_170 : decode cX10_counts 170 = .ok (.ireturn, 1) := by decide +kernel
theorem dX10_count_0 : decode cX10_count 0 = .ok (.iload_n 1, 1) := by decide +kernel
theorem dX10_count_1 : decode cX10_count 1 = .ok (.iconst 0, 1) := by decide +kernel
theorem dX10_count_2 : decode cX10_count 2 = .ok (.bipush 7, 2) := by decide +kernel
theorem dX10_count_4 : decode cX10_count 4 = .ok (.invokestatic 91, 3) := by decide +kernel
theorem dX10_count_7 : decode cX10_count 7 = .ok (.ifCond .eq 11, 3) := by decide +kernel
theorem dX10_count_10 : decode cX10_count 10 = .ok (.aload_n 0, 1) := by decide +kernel
theorem dX10_count_11 : decode cX10_count 11 = .ok (.iload_n 1, 1) := by decide +kernel
theorem dX10_count_12 : decode cX10_count 12 = .ok (.invokevirtual 332, 3) := by decide +kernel
theorem dX10_count_15 : decode cX10_count 15 = .ok (.goto 4, 3) := by decide +kernel
theorem dX10_count_18 : decode cX10_count 18 = .ok (.iconst (-1), 1) := by decide +kernel
theorem dX10_count_19 : decode cX10_count 19 = .ok (.ireturn, 1) := by decide +kernel
theorem dX10_finding_0 : decode cX10_finding 0 = .ok (.aload_n 0, 1) := by decide +kernel
theorem dX10_finding_1 : decode cX10_finding 1 = .ok (.getfield 81, 3) := by decide +kernel
theorem dX10_finding_4 : decode cX10_finding 4 = .ok (.ireturn, 1) := by decide +kernel
theorem dX10_findings_0 : decode cX10_findings 0 = .ok (.iload_n 1, 1) := by decide +kernel
theorem dX10_findings_1 : decode cX10_findings 1 = .ok (.iconst 1, 1) := by decide +kernel
theorem dX10_findings_2 : decode cX10_findings 2 = .ok (.iconst 5, 1) := by decide +kernel
theorem dX10_findings_3 : decode cX10_findings 3 = .ok (.invokestatic 91, 3) := by decide +kernel
theorem dX10_findings_6 : decode cX10_findings 6 = .ok (.ifCond .eq 12, 3) := by decide +kernel
theorem dX10_findings_9 : decode cX10_findings 9 = .ok (.aload_n 0, 1) := by decide +kernel
theorem dX10_findings_10 : decode cX10_findings 10 = .ok (.getfield 7, 3) := by decide +kernel
theorem dX10_findings_13 : decode cX10_findings 13 = .ok (.iload_n 1, 1) := by decide +kernel
theorem dX10_findings_14 : decode cX10_findings 14 = .ok (.iaload, 1) := by decide +kernel
theorem dX10_findings_15 : decode cX10_findings 15 = .ok (.goto 4, 3) := by decide +kernel
theorem dX10_findings_18 : decode cX10_findings 18 = .ok (.iconst (-1), 1) := by decide +kernel
theorem dX10_findings_19 : decode cX10_findings 19 = .ok (.ireturn, 1) := by decide +kernel
theorem dX10_mix_0 : decode cX10_mix 0 = .ok (.aload_n 0, 1) := by decide +kernel
theorem dX10_mix_1 : decode cX10_mix 1 = .ok (.ldc2_w 335, 3) := by decide +kernel
theorem dX10_mix_4 : decode cX10_mix 4 = .ok (.aload_n 0, 1) := by decide +kernel
theorem dX10_mix_5 : decode cX10_mix 5 = .ok (.getfield 337, 3) := by decide +kernel
theorem dX10_mix_8 : decode cX10_mix 8 = .ok (.lmul, 1) := by decide +kernel
theorem dX10_mix_9 : decode cX10_mix 9 = .ok (.iload_n 1, 1) := by decide +kernel
theorem dX10_mix_10 : decode cX10_mix 10 = .ok (.i2l, 1) := by decide +kernel
theorem dX10_mix_11 : decode cX10_mix 11 = .ok (.ladd, 1) := by decide +kernel
theorem dX10_mix_12 : decode cX10_mix 12 = .ok (.putfield 337, 3) := by decide +kernel
theorem dX10_mix_15 : decode cX10_mix 15 = .ok (.return_, 1) := by decide +kernel
theorem dX10_mixAll_0 : decode cX10_mixAll 0 = .ok (.iconst 0, 1) := by decide +kernel
theorem dX10_mixAll_1 : decode cX10_mixAll 1 = .ok (.istore_n 1, 1) := by decide +kernel
theorem dX10_mixAll_2 : decode cX10_mixAll 2 = .ok (.iload_n 1, 1) := by decide +kernel
theorem dX10_mixAll_3 : decode cX10_mixAll 3 = .ok (.iconst 2, 1) := by decide +kernel
theorem dX10_mixAll_4 : decode cX10_mixAll 4 = .ok (.if_icmp .ge 68, 3) := by decide +kernel
theorem dX10_mixAll_7 : decode cX10_mixAll 7 = .ok (.aload_n 0, 1) := by decide +kernel
theorem dX10_mixAll_8 : decode cX10_mixAll 8 = .ok (.aload_n 0, 1) := by decide +kernel
theorem dX10_mixAll_9 : decode cX10_mixAll 9 = .ok (.getfield 32, 3) := by decide +kernel
theorem dX10_mixAll_12 : decode cX10_mixAll 12 = .ok (.iload_n 1, 1) := by decide +kernel
theorem dX10_mixAll_13 : decode cX10_mixAll 13 = .ok (.iaload, 1) := by decide +kernel
theorem dX10_mixAll_14 : decode cX10_mixAll 14 = .ok (.ifCond .ne 7, 3) := by decide +kernel
theorem dX10_mixAll_17 : decode cX10_mixAll 17 = .ok (.iconst (-1), 1) := by decide +kernel
theorem dX10_mixAll_18 : decode cX10_mixAll 18 = .ok (.goto 9, 3) := by decide +kernel
theorem dX10_mixAll_21 : decode cX10_mixAll 21 = .ok (.aload_n 0, 1) := by decide +kernel
theorem dX10_mixAll_22 : decode cX10_mixAll 22 = .ok (.getfield 32, 3) := by decide +kernel
theorem dX10_mixAll_25 : decode cX10_mixAll 25 = .ok (.iload_n 1, 1) := by decide +kernel
theorem dX10_mixAll_26 : decode cX10_mixAll 26 = .ok (.iaload, 1) := by decide +kernel
theorem dX10_mixAll_27 : decode cX10_mixAll 27 = .ok (.invokevirtual 340, 3) := by decide +kernel
theorem dX10_mixAll_30 : decode cX10_mixAll 30 = .ok (.iconst 0, 1) := by decide +kernel
theorem dX10_mixAll_31 : decode cX10_mixAll 31 = .ok (.istore_n 2, 1) := by decide +kernel
theorem dX10_mixAll_32 : decode cX10_mixAll 32 = .ok (.iload_n 2, 1) := by decide +kernel
theorem dX10_mixAll_33 : decode cX10_mixAll 33 = .ok (.bipush 10, 2) := by decide +kernel
theorem dX10_mixAll_35 : decode cX10_mixAll 35 = .ok (.aload_n 0, 1) := by decide +kernel
theorem dX10_mixAll_36 : decode cX10_mixAll 36 = .ok (.getfield 32, 3) := by decide +kernel
theorem dX10_mixAll_39 : decode cX10_mixAll 39 = .ok (.iload_n 1, 1) := by decide +kernel
theorem dX10_mixAll_40 : decode cX10_mixAll 40 = .ok (.iaload, 1) := by decide +kernel
theorem dX10_mixAll_41 : decode cX10_mixAll 41 = .ok (.imul, 1) := by decide +kernel
theorem dX10_mixAll_42 : decode cX10_mixAll 42 = .ok (.if_icmp .ge 24, 3) := by decide +kernel
theorem dX10_mixAll_45 : decode cX10_mixAll 45 = .ok (.aload_n 0, 1) := by decide +kernel
theorem dX10_mixAll_46 : decode cX10_mixAll 46 = .ok (.aload_n 0, 1) := by decide +kernel
theorem dX10_mixAll_47 : decode cX10_mixAll 47 = .ok (.getfield 35, 3) := by decide +kernel
theorem dX10_mixAll_50 : decode cX10_mixAll 50 = .ok (.bipush 80, 2) := by decide +kernel
theorem dX10_mixAll_52 : decode cX10_mixAll 52 = .ok (.iload_n 1, 1) := by decide +kernel
theorem dX10_mixAll_53 : decode cX10_mixAll 53 = .ok (.imul, 1) := by decide +kernel
theorem dX10_mixAll_54 : decode cX10_mixAll 54 = .ok (.iload_n 2, 1) := by decide +kernel
theorem dX10_mixAll_55 : decode cX10_mixAll 55 = .ok (.iadd, 1) := by decide +kernel
theorem dX10_mixAll_56 : decode cX10_mixAll 56 = .ok (.iaload, 1) := by decide +kernel
theorem dX10_mixAll_57 : decode cX10_mixAll 57 = .ok (.invokevirtual 340, 3) := by decide +kernel
theorem dX10_mixAll_60 : decode cX10_mixAll 60 = .ok (.iinc 2 1, 3) := by decide +kernel
theorem dX10_mixAll_63 : decode cX10_mixAll 63 = .ok (.goto (-31), 3) := by decide +kernel
theorem dX10_mixAll_66 : decode cX10_mixAll 66 = .ok (.iinc 1 1, 3) := by decide +kernel
theorem dX10_mixAll_69 : decode cX10_mixAll 69 = .ok (.goto (-67), 3) := by decide +kernel
theorem dX10_mixAll_72 : decode cX10_mixAll 72 = .ok (.iconst 0, 1) := by decide +kernel
theorem dX10_mixAll_73 : decode cX10_mixAll 73 = .ok (.istore_n 1, 1) := by decide +kernel
theorem dX10_mixAll_74 : decode cX10_mixAll 74 = .ok (.iload_n 1, 1) := by decide +kernel
theorem dX10_mixAll_75 : decode cX10_mixAll 75 = .ok (.iconst 4, 1) := by decide +kernel
theorem dX10_mixAll_76 : decode cX10_mixAll 76 = .ok (.aload_n 0, 1) := by decide +kernel
theorem dX10_mixAll_77 : decode cX10_mixAll 77 = .ok (.getfield 138, 3) := by decide +kernel
theorem dX10_mixAll_80 : decode cX10_mixAll 80 = .ok (.imul, 1) := by decide +kernel
theorem dX10_mixAll_81 : decode cX10_mixAll 81 = .ok (.if_icmp .ge 19, 3) := by decide +kernel
theorem dX10_mixAll_84 : decode cX10_mixAll 84 = .ok (.aload_n 0, 1) := by decide +kernel
theorem dX10_mixAll_85 : decode cX10_mixAll 85 = .ok (.aload_n 0, 1) := by decide +kernel
theorem dX10_mixAll_86 : decode cX10_mixAll 86 = .ok (.getfield 38, 3) := by decide +kernel
theorem dX10_mixAll_89 : decode cX10_mixAll 89 = .ok (.iload_n 1, 1) := by decide +kernel
theorem dX10_mixAll_90 : decode cX10_mixAll 90 = .ok (.iaload, 1) := by decide +kernel
theorem dX10_mixAll_91 : decode cX10_mixAll 91 = .ok (.invokevirtual 340, 3) := by decide +kernel
theorem dX10_mixAll_94 : decode cX10_mixAll 94 = .ok (.iinc 1 1, 3) := by decide +kernel
theorem dX10_mixAll_97 : decode cX10_mixAll 97 = .ok (.goto (-23), 3) := by decide +kernel
theorem dX10_mixAll_100 : decode cX10_mixAll 100 = .ok (.iconst 0, 1) := by decide +kernel
theorem dX10_mixAll_101 : decode cX10_mixAll 101 = .ok (.istore_n 1, 1) := by decide +kernel
theorem dX10_mixAll_102 : decode cX10_mixAll 102 = .ok (.iload_n 1, 1) := by decide +kernel
theorem dX10_mixAll_103 : decode cX10_mixAll 103 = .ok (.aload_n 0, 1) := by decide +kernel
theorem dX10_mixAll_104 : decode cX10_mixAll 104 = .ok (.getfield 141, 3) := by decide +kernel
theorem dX10_mixAll_107 : decode cX10_mixAll 107 = .ok (.if_icmp .ge 32, 3) := by decide +kernel
theorem dX10_mixAll_110 : decode cX10_mixAll 110 = .ok (.iconst 0, 1) := by decide +kernel
theorem dX10_mixAll_111 : decode cX10_mixAll 111 = .ok (.istore_n 2, 1) := by decide +kernel
theorem dX10_mixAll_112 : decode cX10_mixAll 112 = .ok (.iload_n 2, 1) := by decide +kernel
theorem dX10_mixAll_113 : decode cX10_mixAll 113 = .ok (.iconst 5, 1) := by decide +kernel
theorem dX10_mixAll_114 : decode cX10_mixAll 114 = .ok (.if_icmp .ge 19, 3) := by decide +kernel
theorem dX10_mixAll_117 : decode cX10_mixAll 117 = .ok (.aload_n 0, 1) := by decide +kernel
theorem dX10_mixAll_118 : decode cX10_mixAll 118 = .ok (.aload_n 0, 1) := by decide +kernel
theorem dX10_mixAll_119 : decode cX10_mixAll 119 = .ok (.iload_n 1, 1) := by decide +kernel
theorem dX10_mixAll_120 : decode cX10_mixAll 120 = .ok (.iload_n 2, 1) := by decide +kernel
theorem dX10_mixAll_121 : decode cX10_mixAll 121 = .ok (.invokevirtual 304, 3) := by decide +kernel
theorem dX10_mixAll_124 : decode cX10_mixAll 124 = .ok (.invokevirtual 340, 3) := by decide +kernel
theorem dX10_mixAll_127 : decode cX10_mixAll 127 = .ok (.iinc 2 1, 3) := by decide +kernel
theorem dX10_mixAll_130 : decode cX10_mixAll 130 = .ok (.goto (-18), 3) := by decide +kernel
theorem dX10_mixAll_133 : decode cX10_mixAll 133 = .ok (.iinc 1 1, 3) := by decide +kernel
theorem dX10_mixAll_136 : decode cX10_mixAll 136 = .ok (.goto (-34), 3) := by decide +kernel
theorem dX10_mixAll_139 : decode cX10_mixAll 139 = .ok (.return_, 1) := by decide +kernel
theorem dX10_digest_0 : decode cX10_digest 0 = .ok (.aload_n 0, 1) := by decide +kernel
theorem dX10_digest_1 : decode cX10_digest 1 = .ok (.ldc2_w 343, 3) := by decide +kernel
theorem dX10_digest_4 : decode cX10_digest 4 = .ok (.putfield 337, 3) := by decide +kernel
theorem dX10_digest_7 : decode cX10_digest 7 = .ok (.iconst 0, 1) := by decide +kernel
theorem dX10_digest_8 : decode cX10_digest 8 = .ok (.istore_n 1, 1) := by decide +kernel
theorem dX10_digest_9 : decode cX10_digest 9 = .ok (.iload_n 1, 1) := by decide +kernel
theorem dX10_digest_10 : decode cX10_digest 10 = .ok (.bipush 7, 2) := by decide +kernel
theorem dX10_digest_12 : decode cX10_digest 12 = .ok (.if_icmp .gt 18, 3) := by decide +kernel
theorem dX10_digest_15 : decode cX10_digest 15 = .ok (.aload_n 0, 1) := by decide +kernel
theorem dX10_digest_16 : decode cX10_digest 16 = .ok (.aload_n 0, 1) := by decide +kernel
theorem dX10_digest_17 : decode cX10_digest 17 = .ok (.iload_n 1, 1) := by decide +kernel
theorem dX10_digest_18 : decode cX10_digest 18 = .ok (.invokevirtual 332, 3) := by decide +kernel
theorem dX10_digest_21 : decode cX10_digest 21 = .ok (.invokevirtual 340, 3) := by decide +kernel
theorem dX10_digest_24 : decode cX10_digest 24 = .ok (.iinc 1 1, 3) := by decide +kernel
theorem dX10_digest_27 : decode cX10_digest 27 = .ok (.goto (-18), 3) := by decide +kernel
theorem dX10_digest_30 : decode cX10_digest 30 = .ok (.aload_n 0, 1) := by decide +kernel
theorem dX10_digest_31 : decode cX10_digest 31 = .ok (.invokevirtual 345, 3) := by decide +kernel
theorem dX10_digest_34 : decode cX10_digest 34 = .ok (.iconst 0, 1) := by decide +kernel
theorem dX10_digest_35 : decode cX10_digest 35 = .ok (.istore_n 1, 1) := by decide +kernel
theorem dX10_digest_36 : decode cX10_digest 36 = .ok (.iload_n 1, 1) := by decide +kernel
theorem dX10_digest_37 : decode cX10_digest 37 = .ok (.bipush 6, 2) := by decide +kernel
theorem dX10_digest_39 : decode cX10_digest 39 = .ok (.if_icmp .ge 60, 3) := by decide +kernel
theorem dX10_digest_42 : decode cX10_digest 42 = .ok (.aload_n 0, 1) := by decide +kernel
theorem dX10_digest_43 : decode cX10_digest 43 = .ok (.aload_n 0, 1) := by decide +kernel
theorem dX10_digest_44 : decode cX10_digest 44 = .ok (.getfield 17, 3) := by decide +kernel
theorem dX10_digest_47 : decode cX10_digest 47 = .ok (.iload_n 1, 1) := by decide +kernel
theorem dX10_digest_48 : decode cX10_digest 48 = .ok (.iaload, 1) := by decide +kernel
theorem dX10_digest_49 : decode cX10_digest 49 = .ok (.ifCond .ge 7, 3) := by decide +kernel
theorem dX10_digest_52 : decode cX10_digest 52 = .ok (.iconst (-1), 1) := by decide +kernel
theorem dX10_digest_53 : decode cX10_digest 53 = .ok (.goto 9, 3) := by decide +kernel
theorem dX10_digest_56 : decode cX10_digest 56 = .ok (.aload_n 0, 1) := by decide +kernel
theorem dX10_digest_57 : decode cX10_digest 57 = .ok (.getfield 17, 3) := by decide +kernel
theorem dX10_digest_60 : decode cX10_digest 60 = .ok (.iload_n 1, 1) := by decide +kernel
theorem dX10_digest_61 : decode cX10_digest 61 = .ok (.iaload, 1) := by decide +kernel
theorem dX10_digest_62 : decode cX10_digest 62 = .ok (.invokevirtual 340, 3) := by decide +kernel
theorem dX10_digest_65 : decode cX10_digest 65 = .ok (.iconst 0, 1) := by decide +kernel
theorem dX10_digest_66 : decode cX10_digest 66 = .ok (.istore_n 2, 1) := by decide +kernel
theorem dX10_digest_67 : decode cX10_digest 67 = .ok (.iload_n 2, 1) := by decide +kernel
theorem dX10_digest_68 : decode cX10_digest 68 = .ok (.aload_n 0, 1) := by decide +kernel
theorem dX10_digest_69 : decode cX10_digest 69 = .ok (.getfield 17, 3) := by decide +kernel
theorem dX10_digest_72 : decode cX10_digest 72 = .ok (.iload_n 1, 1) := by decide +kernel
theorem dX10_digest_73 : decode cX10_digest 73 = .ok (.iaload, 1) := by decide +kernel
theorem dX10_digest_74 : decode cX10_digest 74 = .ok (.if_icmp .ge 19, 3) := by decide +kernel
theorem dX10_digest_77 : decode cX10_digest 77 = .ok (.aload_n 0, 1) := by decide +kernel
theorem dX10_digest_78 : decode cX10_digest 78 = .ok (.aload_n 0, 1) := by decide +kernel
theorem dX10_digest_79 : decode cX10_digest 79 = .ok (.iload_n 1, 1) := by decide +kernel
theorem dX10_digest_80 : decode cX10_digest 80 = .ok (.iload_n 2, 1) := by decide +kernel
theorem dX10_digest_81 : decode cX10_digest 81 = .ok (.invokevirtual 113, 3) := by decide +kernel
theorem dX10_digest_84 : decode cX10_digest 84 = .ok (.invokevirtual 340, 3) := by decide +kernel
theorem dX10_digest_87 : decode cX10_digest 87 = .ok (.iinc 2 1, 3) := by decide +kernel
theorem dX10_digest_90 : decode cX10_digest 90 = .ok (.goto (-23), 3) := by decide +kernel
theorem dX10_digest_93 : decode cX10_digest 93 = .ok (.iinc 1 1, 3) := by decide +kernel
theorem dX10_digest_96 : decode cX10_digest 96 = .ok (.goto (-60), 3) := by decide +kernel
theorem dX10_digest_99 : decode cX10_digest 99 = .ok (.iconst 0, 1) := by decide +kernel
theorem dX10_digest_100 : decode cX10_digest 100 = .ok (.istore_n 1, 1) := by decide +kernel
theorem dX10_digest_101 : decode cX10_digest 101 = .ok (.iload_n 1, 1) := by decide +kernel
theorem dX10_digest_102 : decode cX10_digest 102 = .ok (.iconst 4, 1) := by decide +kernel
theorem dX10_digest_103 : decode cX10_digest 103 = .ok (.if_icmp .ge 65, 3) := by decide +kernel
theorem dX10_digest_106 : decode cX10_digest 106 = .ok (.aload_n 0, 1) := by decide +kernel
theorem dX10_digest_107 : decode cX10_digest 107 = .ok (.aload_n 0, 1) := by decide +kernel
theorem dX10_digest_108 : decode cX10_digest 108 = .ok (.getfield 26, 3) := by decide +kernel
theorem dX10_digest_111 : decode cX10_digest 111 = .ok (.iload_n 1, 1) := by decide +kernel
theorem dX10_digest_112 : decode cX10_digest 112 = .ok (.iaload, 1) := by decide +kernel
theorem dX10_digest_113 : decode cX10_digest 113 = .ok (.ifCond .ge 7, 3) := by decide +kernel
theorem dX10_digest_116 : decode cX10_digest 116 = .ok (.iconst (-1), 1) := by decide +kernel
theorem dX10_digest_117 : decode cX10_digest 117 = .ok (.goto 9, 3) := by decide +kernel
theorem dX10_digest_120 : decode cX10_digest 120 = .ok (.aload_n 0, 1) := by decide +kernel
theorem dX10_digest_121 : decode cX10_digest 121 = .ok (.getfield 26, 3) := by decide +kernel
theorem dX10_digest_124 : decode cX10_digest 124 = .ok (.iload_n 1, 1) := by decide +kernel
theorem dX10_digest_125 : decode cX10_digest 125 = .ok (.iaload, 1) := by decide +kernel
theorem dX10_digest_126 : decode cX10_digest 126 = .ok (.invokevirtual 340, 3) := by decide +kernel
theorem dX10_digest_129 : decode cX10_digest 129 = .ok (.iconst 0, 1) := by decide +kernel
theorem dX10_digest_130 : decode cX10_digest 130 = .ok (.istore_n 2, 1) := by decide +kernel
theorem dX10_digest_131 : decode cX10_digest 131 = .ok (.iload_n 2, 1) := by decide +kernel
theorem dX10_digest_132 : decode cX10_digest 132 = .ok (.aload_n 0, 1) := by decide +kernel
theorem dX10_digest_133 : decode cX10_digest 133 = .ok (.getfield 26, 3) := by decide +kernel
theorem dX10_digest_136 : decode cX10_digest 136 = .ok (.iload_n 1, 1) := by decide +kernel
theorem dX10_digest_137 : decode cX10_digest 137 = .ok (.iaload, 1) := by decide +kernel
theorem dX10_digest_138 : decode cX10_digest 138 = .ok (.if_icmp .ge 24, 3) := by decide +kernel
theorem dX10_digest_141 : decode cX10_digest 141 = .ok (.aload_n 0, 1) := by decide +kernel
theorem dX10_digest_142 : decode cX10_digest 142 = .ok (.aload_n 0, 1) := by decide +kernel
theorem dX10_digest_143 : decode cX10_digest 143 = .ok (.getfield 29, 3) := by decide +kernel
theorem dX10_digest_146 : decode cX10_digest 146 = .ok (.bipush 120, 2) := by decide +kernel
theorem dX10_digest_148 : decode cX10_digest 148 = .ok (.iload_n 1, 1) := by decide +kernel
theorem dX10_digest_149 : decode cX10_digest 149 = .ok (.imul, 1) := by decide +kernel
theorem dX10_digest_150 : decode cX10_digest 150 = .ok (.iload_n 2, 1) := by decide +kernel
theorem dX10_digest_151 : decode cX10_digest 151 = .ok (.iadd, 1) := by decide +kernel
theorem dX10_digest_152 : decode cX10_digest 152 = .ok (.iaload, 1) := by decide +kernel
theorem dX10_digest_153 : decode cX10_digest 153 = .ok (.invokevirtual 340, 3) := by decide +kernel
theorem dX10_digest_156 : decode cX10_digest 156 = .ok (.iinc 2 1, 3) := by decide +kernel
theorem dX10_digest_159 : decode cX10_digest 159 = .ok (.goto (-28), 3) := by decide +kernel
theorem dX10_digest_162 : decode cX10_digest 162 = .ok (.iinc 1 1, 3) := by decide +kernel
theorem dX10_digest_165 : decode cX10_digest 165 = .ok (.goto (-64), 3) := by decide +kernel
theorem dX10_digest_168 : decode cX10_digest 168 = .ok (.aload_n 0, 1) := by decide +kernel
theorem dX10_digest_169 : decode cX10_digest 169 = .ok (.getfield 337, 3) := by decide +kernel
theorem dX10_digest_172 : decode cX10_digest 172 = .ok (.lreturn, 1) := by decide +kernel
theorem dJ6_bitCount_0f7a4_0 : decode cJ6_bitCount_0f7a4 0 = .ok (.iload_n 0, 1) := by decide +kernel
theorem dJ6_bitCount_0f7a4_1 : decode cJ6_bitCount_0f7a4 1 = .ok (.iload_n 0, 1) := by decide +kernel
theorem dJ6_bitCount_0f7a4_2 : decode cJ6_bitCount_0f7a4 2 = .ok (.iconst 1, 1) := by decide +kernel
theorem dJ6_bitCount_0f7a4_3 : decode cJ6_bitCount_0f7a4 3 = .ok (.iushr, 1) := by decide +kernel
theorem dJ6_bitCount_0f7a4_4 : decode cJ6_bitCount_0f7a4 4 = .ok (.ldc_w 265, 3) := by decide +kernel
theorem dJ6_bitCount_0f7a4_7 : decode cJ6_bitCount_0f7a4 7 = .ok (.iand, 1) := by decide +kernel
theorem dJ6_bitCount_0f7a4_8 : decode cJ6_bitCount_0f7a4 8 = .ok (.isub, 1) := by decide +kernel
theorem dJ6_bitCount_0f7a4_9 : decode cJ6_bitCount_0f7a4 9 = .ok (.istore_n 0, 1) := by decide +kernel
theorem dJ6_bitCount_0f7a4_10 : decode cJ6_bitCount_0f7a4 10 = .ok (.iload_n 0, 1) := by decide +kernel
theorem dJ6_bitCount_0f7a4_11 : decode cJ6_bitCount_0f7a4 11 = .ok (.ldc_w 266, 3) := by decide +kernel
theorem dJ6_bitCount_0f7a4_14 : decode cJ6_bitCount_0f7a4 14 = .ok (.iand, 1) := by decide +kernel
theorem dJ6_bitCount_0f7a4_15 : decode cJ6_bitCount_0f7a4 15 = .ok (.iload_n 0, 1) := by decide +kernel
theorem dJ6_bitCount_0f7a4_16 : decode cJ6_bitCount_0f7a4 16 = .ok (.iconst 2, 1) := by decide +kernel
theorem dJ6_bitCount_0f7a4_17 : decode cJ6_bitCount_0f7a4 17 = .ok (.iushr, 1) := by decide +kernel
theorem dJ6_bitCount_0f7a4_18 : decode cJ6_bitCount_0f7a4 18 = .ok (.ldc_w 266, 3) := by decide +kernel
theorem dJ6_bitCount_0f7a4_21 : decode cJ6_bitCount_0f7a4 21 = .ok (.iand, 1) := by decide +kernel
theorem dJ6_bitCount_0f7a4_22 : decode cJ6_bitCount_0f7a4 22 = .ok (.iadd, 1) := by decide +kernel
theorem dJ6_bitCount_0f7a4_23 : decode cJ6_bitCount_0f7a4 23 = .ok (.istore_n 0, 1) := by decide +kernel
theorem dJ6_bitCount_0f7a4_24 : decode cJ6_bitCount_0f7a4 24 = .ok (.iload_n 0, 1) := by decide +kernel
theorem dJ6_bitCount_0f7a4_25 : decode cJ6_bitCount_0f7a4 25 = .ok (.iload_n 0, 1) := by decide +kernel
theorem dJ6_bitCount_0f7a4_26 : decode cJ6_bitCount_0f7a4 26 = .ok (.iconst 4, 1) := by decide +kernel
theorem dJ6_bitCount_0f7a4_27 : decode cJ6_bitCount_0f7a4 27 = .ok (.iushr, 1) := by decide +kernel
theorem dJ6_bitCount_0f7a4_28 : decode cJ6_bitCount_0f7a4 28 = .ok (.iadd, 1) := by decide +kernel
theorem dJ6_bitCount_0f7a4_29 : decode cJ6_bitCount_0f7a4 29 = .ok (.ldc_w 267, 3) := by decide +kernel
theorem dJ6_bitCount_0f7a4_32 : decode cJ6_bitCount_0f7a4 32 = .ok (.iand, 1) := by decide +kernel
theorem dJ6_bitCount_0f7a4_33 : decode cJ6_bitCount_0f7a4 33 = .ok (.istore_n 0, 1) := by decide +kernel
theorem dJ6_bitCount_0f7a4_34 : decode cJ6_bitCount_0f7a4 34 = .ok (.iload_n 0, 1) := by decide +kernel
theorem dJ6_bitCount_0f7a4_35 : decode cJ6_bitCount_0f7a4 35 = .ok (.iload_n 0, 1) := by decide +kernel
theorem dJ6_bitCount_0f7a4_36 : decode cJ6_bitCount_0f7a4 36 = .ok (.bipush 8, 2) := by decide +kernel
theorem dJ6_bitCount_0f7a4_38 : decode cJ6_bitCount_0f7a4 38 = .ok (.iushr, 1) := by decide +kernel
theorem dJ6_bitCount_0f7a4_39 : decode cJ6_bitCount_0f7a4 39 = .ok (.iadd, 1) := by decide +kernel
theorem dJ6_bitCount_0f7a4_40 : decode cJ6_bitCount_0f7a4 40 = .ok (.istore_n 0, 1) := by decide +kernel
theorem dJ6_bitCount_0f7a4_41 : decode cJ6_bitCount_0f7a4 41 = .ok (.iload_n 0, 1) := by decide +kernel
theorem dJ6_bitCount_0f7a4_42 : decode cJ6_bitCount_0f7a4 42 = .ok (.iload_n 0, 1) := by decide +kernel
theorem dJ6_bitCount_0f7a4_43 : decode cJ6_bitCount_0f7a4 43 = .ok (.bipush 16, 2) := by decide +kernel
theorem dJ6_bitCount_0f7a4_45 : decode cJ6_bitCount_0f7a4 45 = .ok (.iushr, 1) := by decide +kernel
theorem dJ6_bitCount_0f7a4_46 : decode cJ6_bitCount_0f7a4 46 = .ok (.iadd, 1) := by decide +kernel
theorem dJ6_bitCount_0f7a4_47 : decode cJ6_bitCount_0f7a4 47 = .ok (.istore_n 0, 1) := by decide +kernel
theorem dJ6_bitCount_0f7a4_48 : decode cJ6_bitCount_0f7a4 48 = .ok (.iload_n 0, 1) := by decide +kernel
theorem dJ6_bitCount_0f7a4_49 : decode cJ6_bitCount_0f7a4 49 = .ok (.bipush 63, 2) := by decide +kernel
theorem dJ6_bitCount_0f7a4_51 : decode cJ6_bitCount_0f7a4 51 = .ok (.iand, 1) := by decide +kernel
theorem dJ6_bitCount_0f7a4_52 : decode cJ6_bitCount_0f7a4 52 = .ok (.ireturn, 1) := by decide +kernel
