theorem dX9_init_0 : decode cX9_init 0 = .ok (.aload_n 0, 1) := by decide +kernel
theorem dX9_init_1 : decode cX9_init 1 = .ok (.invokespecial 3, 3) := by decide +kernel
theorem dX9_init_4 : decode cX9_init 4 = .ok (.aload_n 0, 1) := by decide +kernel
theorem dX9_init_5 : decode cX9_init 5 = .ok (.bipush 6, 2) := by decide +kernel
theorem dX9_init_7 : decode cX9_init 7 = .ok (.anewarray 9, 3) := by decide +kernel
theorem dX9_init_10 : decode cX9_init 10 = .ok (.putfield 11, 3) := by decide +kernel
theorem dX9_init_13 : decode cX9_init 13 = .ok (.aload_n 0, 1) := by decide +kernel
theorem dX9_init_14 : decode cX9_init 14 = .ok (.iconst 4, 1) := by decide +kernel
theorem dX9_init_15 : decode cX9_init 15 = .ok (.anewarray 9, 3) := by decide +kernel
theorem dX9_init_18 : decode cX9_init 18 = .ok (.putfield 15, 3) := by decide +kernel
theorem dX9_init_21 : decode cX9_init 21 = .ok (.aload_n 0, 1) := by decide +kernel
theorem dX9_init_22 : decode cX9_init 22 = .ok (.iconst 2, 1) := by decide +kernel
theorem dX9_init_23 : decode cX9_init 23 = .ok (.anewarray 18, 3) := by decide +kernel
theorem dX9_init_26 : decode cX9_init 26 = .ok (.putfield 20, 3) := by decide +kernel
theorem dX9_init_29 : decode cX9_init 29 = .ok (.aload_n 0, 1) := by decide +kernel
theorem dX9_init_30 : decode cX9_init 30 = .ok (.bipush 8, 2) := by decide +kernel
theorem dX9_init_32 : decode cX9_init 32 = .ok (.anewarray 24, 3) := by decide +kernel
theorem dX9_init_35 : decode cX9_init 35 = .ok (.putfield 26, 3) := by decide +kernel
theorem dX9_init_38 : decode cX9_init 38 = .ok (.aload_n 0, 1) := by decide +kernel
theorem dX9_init_39 : decode cX9_init 39 = .ok (.bipush 12, 2) := by decide +kernel
theorem dX9_init_41 : decode cX9_init 41 = .ok (.anewarray 30, 3) := by decide +kernel
theorem dX9_init_44 : decode cX9_init 44 = .ok (.putfield 32, 3) := by decide +kernel
theorem dX9_init_47 : decode cX9_init 47 = .ok (.aload_n 0, 1) := by decide +kernel
theorem dX9_init_48 : decode cX9_init 48 = .ok (.new 36, 3) := by decide +kernel
theorem dX9_init_51 : decode cX9_init 51 = .ok (.dup, 1) := by decide +kernel
theorem dX9_init_52 : decode cX9_init 52 = .ok (.invokespecial 38, 3) := by decide +kernel
theorem dX9_init_55 : decode cX9_init 55 = .ok (.putfield 39, 3) := by decide +kernel
theorem dX9_init_58 : decode cX9_init 58 = .ok (.aload_n 0, 1) := by decide +kernel
theorem dX9_init_59 : decode cX9_init 59 = .ok (.new 43, 3) := by decide +kernel
theorem dX9_init_62 : decode cX9_init 62 = .ok (.dup, 1) := by decide +kernel
theorem dX9_init_63 : decode cX9_init 63 = .ok (.invokespecial 45, 3) := by decide +kernel
theorem dX9_init_66 : decode cX9_init 66 = .ok (.putfield 46, 3) := by decide +kernel
theorem dX9_init_69 : decode cX9_init 69 = .ok (.aload_n 0, 1) := by decide +kernel
theorem dX9_init_70 : decode cX9_init 70 = .ok (.new 50, 3) := by decide +kernel
theorem dX9_init_73 : decode cX9_init 73 = .ok (.dup, 1) := by decide +kernel
theorem dX9_init_74 : decode cX9_init 74 = .ok (.invokespecial 52, 3) := by decide +kernel
theorem dX9_init_77 : decode cX9_init 77 = .ok (.putfield 53, 3) := by decide +kernel
theorem dX9_init_80 : decode cX9_init 80 = .ok (.aload_n 0, 1) := by decide +kernel
theorem dX9_init_81 : decode cX9_init 81 = .ok (.new 57, 3) := by decide +kernel
theorem dX9_init_84 : decode cX9_init 84 = .ok (.dup, 1) := by decide +kernel
theorem dX9_init_85 : decode cX9_init 85 = .ok (.invokespecial 59, 3) := by decide +kernel
theorem dX9_init_88 : decode cX9_init 88 = .ok (.putfield 60, 3) := by decide +kernel
theorem dX9_init_91 : decode cX9_init 91 = .ok (.aload_n 0, 1) := by decide +kernel
theorem dX9_init_92 : decode cX9_init 92 = .ok (.new 64, 3) := by decide +kernel
theorem dX9_init_95 : decode cX9_init 95 = .ok (.dup, 1) := by decide +kernel
theorem dX9_init_96 : decode cX9_init 96 = .ok (.invokespecial 66, 3) := by decide +kernel
theorem dX9_init_99 : decode cX9_init 99 = .ok (.putfield 67, 3) := by decide +kernel
theorem dX9_init_102 : decode cX9_init 102 = .ok (.iconst 0, 1) := by decide +kernel
theorem dX9_init_103 : decode cX9_init 103 = .ok (.istore_n 1, 1) := by decide +kernel
theorem dX9_init_104 : decode cX9_init 104 = .ok (.iload_n 1, 1) := by decide +kernel
theorem dX9_init_105 : decode cX9_init 105 = .ok (.bipush 6, 2) := by decide +kernel
theorem dX9_init_107 : decode cX9_init 107 = .ok (.if_icmp .ge 24, 3) := by decide +kernel
theorem dX9_init_110 : decode cX9_init 110 = .ok (.aload_n 0, 1) := by decide +kernel
theorem dX9_init_111 : decode cX9_init 111 = .ok (.getfield 11, 3) := by decide +kernel
theorem dX9_init_114 : decode cX9_init 114 = .ok (.iload_n 1, 1) := by decide +kernel
theorem dX9_init_115 : decode cX9_init 115 = .ok (.new 9, 3) := by decide +kernel
theorem dX9_init_118 : decode cX9_init 118 = .ok (.dup, 1) := by decide +kernel
theorem dX9_init_119 : decode cX9_init 119 = .ok (.bipush 40, 2) := by decide +kernel
theorem dX9_init_121 : decode cX9_init 121 = .ok (.invokespecial 71, 3) := by decide +kernel
theorem dX9_init_124 : decode cX9_init 124 = .ok (.aastore, 1) := by decide +kernel
theorem dX9_init_125 : decode cX9_init 125 = .ok (.iinc 1 1, 3) := by decide +kernel
theorem dX9_init_128 : decode cX9_init 128 = .ok (.goto (-24), 3) := by decide +kernel
theorem dX9_init_131 : decode cX9_init 131 = .ok (.iconst 0, 1) := by decide +kernel
theorem dX9_init_132 : decode cX9_init 132 = .ok (.istore_n 1, 1) := by decide +kernel
theorem dX9_init_133 : decode cX9_init 133 = .ok (.iload_n 1, 1) := by decide +kernel
theorem dX9_init_134 : decode cX9_init 134 = .ok (.iconst 4, 1) := by decide +kernel
theorem dX9_init_135 : decode cX9_init 135 = .ok (.if_icmp .ge 24, 3) := by decide +kernel
theorem dX9_init_138 : decode cX9_init 138 = .ok (.aload_n 0, 1) := by decide +kernel
theorem dX9_init_139 : decode cX9_init 139 = .ok (.getfield 15, 3) := by decide +kernel
theorem dX9_init_142 : decode cX9_init 142 = .ok (.iload_n 1, 1) := by decide +kernel
theorem dX9_init_143 : decode cX9_init 143 = .ok (.new 9, 3) := by decide +kernel
theorem dX9_init_146 : decode cX9_init 146 = .ok (.dup, 1) := by decide +kernel
theorem dX9_init_147 : decode cX9_init 147 = .ok (.bipush 120, 2) := by decide +kernel
theorem dX9_init_149 : decode cX9_init 149 = .ok (.invokespecial 71, 3) := by decide +kernel
theorem dX9_init_152 : decode cX9_init 152 = .ok (.aastore, 1) := by decide +kernel
theorem dX9_init_153 : decode cX9_init 153 = .ok (.iinc 1 1, 3) := by decide +kernel
theorem dX9_init_156 : decode cX9_init 156 = .ok (.goto (-23), 3) := by decide +kernel
theorem dX9_init_159 : decode cX9_init 159 = .ok (.iconst 0, 1) := by decide +kernel
theorem dX9_init_160 : decode cX9_init 160 = .ok (.istore_n 1, 1) := by decide +kernel
theorem dX9_init_161 : decode cX9_init 161 = .ok (.iload_n 1, 1) := by decide +kernel
theorem dX9_init_162 : decode cX9_init 162 = .ok (.iconst 2, 1) := by decide +kernel
theorem dX9_init_163 : decode cX9_init 163 = .ok (.if_icmp .ge 22, 3) := by decide +kernel
theorem dX9_init_166 : decode cX9_init 166 = .ok (.aload_n 0, 1) := by decide +kernel
theorem dX9_init_167 : decode cX9_init 167 = .ok (.getfield 20, 3) := by decide +kernel
theorem dX9_init_170 : decode cX9_init 170 = .ok (.iload_n 1, 1) := by decide +kernel
theorem dX9_init_171 : decode cX9_init 171 = .ok (.new 18, 3) := by decide +kernel
theorem dX9_init_174 : decode cX9_init 174 = .ok (.dup, 1) := by decide +kernel
theorem dX9_init_175 : decode cX9_init 175 = .ok (.invokespecial 74, 3) := by decide +kernel
theorem dX9_init_178 : decode cX9_init 178 = .ok (.aastore, 1) := by decide +kernel
theorem dX9_init_179 : decode cX9_init 179 = .ok (.iinc 1 1, 3) := by decide +kernel
theorem dX9_init_182 : decode cX9_init 182 = .ok (.goto (-21), 3) := by decide +kernel
theorem dX9_init_185 : decode cX9_init 185 = .ok (.iconst 0, 1) := by decide +kernel
theorem dX9_init_186 : decode cX9_init 186 = .ok (.istore_n 1, 1) := by decide +kernel
theorem dX9_init_187 : decode cX9_init 187 = .ok (.iload_n 1, 1) := by decide +kernel
theorem dX9_init_188 : decode cX9_init 188 = .ok (.bipush 8, 2) := by decide +kernel
theorem dX9_init_190 : decode cX9_init 190 = .ok (.if_icmp .ge 28, 3) := by decide +kernel
theorem dX9_init_193 : decode cX9_init 193 = .ok (.aload_n 0, 1) := by decide +kernel
theorem dX9_init_194 : decode cX9_init 194 = .ok (.getfield 26, 3) := by decide +kernel
theorem dX9_init_197 : decode cX9_init 197 = .ok (.iload_n 1, 1) := by decide +kernel
theorem dX9_init_198 : decode cX9_init 198 = .ok (.new 24, 3) := by decide +kernel
theorem dX9_init_201 : decode cX9_init 201 = .ok (.dup, 1) := by decide +kernel
theorem dX9_init_202 : decode cX9_init 202 = .ok (.aload_n 0, 1) := by decide +kernel
theorem dX9_init_203 : decode cX9_init 203 = .ok (.getfield 20, 3) := by decide +kernel
theorem dX9_init_206 : decode cX9_init 206 = .ok (.iconst 0, 1) := by decide +kernel
theorem dX9_init_207 : decode cX9_init 207 = .ok (.aaload, 1) := by decide +kernel
theorem dX9_init_208 : decode cX9_init 208 = .ok (.invokespecial 75, 3) := by decide +kernel
theorem dX9_init_211 : decode cX9_init 211 = .ok (.aastore, 1) := by decide +kernel
theorem dX9_init_212 : decode cX9_init 212 = .ok (.iinc 1 1, 3) := by decide +kernel
theorem dX9_init_215 : decode cX9_init 215 = .ok (.goto (-28), 3) := by decide +kernel
theorem dX9_init_218 : decode cX9_init 218 = .ok (.iconst 0, 1) := by decide +kernel
theorem dX9_init_219 : decode cX9_init 219 = .ok (.istore_n 1, 1) := by decide +kernel
theorem dX9_init_220 : decode cX9_init 220 = .ok (.iload_n 1, 1) := by decide +kernel
theorem dX9_init_221 : decode cX9_init 221 = .ok (.bipush 12, 2) := by decide +kernel
theorem dX9_init_223 : decode cX9_init 223 = .ok (.if_icmp .ge 22, 3) := by decide +kernel
theorem dX9_init_226 : decode cX9_init 226 = .ok (.aload_n 0, 1) := by decide +kernel
theorem dX9_init_227 : decode cX9_init 227 = .ok (.getfield 32, 3) := by decide +kernel
theorem dX9_init_230 : decode cX9_init 230 = .ok (.iload_n 1, 1) := by decide +kernel
theorem dX9_init_231 : decode cX9_init 231 = .ok (.new 30, 3) := by decide +kernel
theorem dX9_init_234 : decode cX9_init 234 = .ok (.dup, 1) := by decide +kernel
theorem dX9_init_235 : decode cX9_init 235 = .ok (.invokespecial 78, 3) := by decide +kernel
theorem dX9_init_238 : decode cX9_init 238 = .ok (.aastore, 1) := by decide +kernel
theorem dX9_init_239 : decode cX9_init 239 = .ok (.iinc 1 1, 3) := by decide +kernel
theorem dX9_init_242 : decode cX9_init 242 = .ok (.goto (-22), 3) := by decide +kernel
theorem dX9_init_245 : decode cX9_init 245 = .ok (.aload_n 0, 1) := by decide +kernel
theorem dX9_init_246 : decode cX9_init 246 = .ok (.new 24, 3) := by decide +kernel
theorem dX9_init_249 : decode cX9_init 249 = .ok (.dup, 1) := by decide +kernel
theorem dX9_init_250 : decode cX9_init 250 = .ok (.aload_n 0, 1) := by decide +kernel
theorem dX9_init_251 : decode cX9_init 251 = .ok (.getfield 20, 3) := by decide +kernel
theorem dX9_init_254 : decode cX9_init 254 = .ok (.iconst 0, 1) := by decide +kernel
theorem dX9_init_255 : decode cX9_init 255 = .ok (.aaload, 1) := by decide +kernel
theorem dX9_init_256 : decode cX9_init 256 = .ok (.invokespecial 75, 3) := by decide +kernel
theorem dX9_init_259 : decode cX9_init 259 = .ok (.putfield 79, 3) := by decide +kernel
theorem dX9_init_262 : decode cX9_init 262 = .ok (.return_, 1) := by decide +kernel
theorem dX9_row_0 : decode cX9_row 0 = .ok (.iload_n 1, 1) := by decide +kernel
theorem dX9_row_1 : decode cX9_row 1 = .ok (.invokestatic 83, 3) := by decide +kernel
theorem dX9_row_4 : decode cX9_row 4 = .ok (.ifCond .eq 9, 3) := by decide +kernel
theorem dX9_row_7 : decode cX9_row 7 = .ok (.iload_n 2, 1) := by decide +kernel
theorem dX9_row_8 : decode cX9_row 8 = .ok (.bipush 40, 2) := by decide +kernel
theorem dX9_row_10 : decode cX9_row 10 = .ok (.if_icmp .le 5, 3) := by decide +kernel
theorem dX9_row_13 : decode cX9_row 13 = .ok (.iconst (-1), 1) := by decide +kernel
theorem dX9_row_14 : decode cX9_row 14 = .ok (.ireturn, 1) := by decide +kernel
theorem dX9_row_15 : decode cX9_row 15 = .ok (.iload_n 2, 1) := by decide +kernel
theorem dX9_row_16 : decode cX9_row 16 = .ok (.ifCond .ge 12, 3) := by decide +kernel
theorem dX9_row_19 : decode cX9_row 19 = .ok (.aload_n 0, 1) := by decide +kernel
theorem dX9_row_20 : decode cX9_row 20 = .ok (.getfield 39, 3) := by decide +kernel
theorem dX9_row_23 : decode cX9_row 23 = .ok (.iconst 5, 1) := by decide +kernel
theorem dX9_row_24 : decode cX9_row 24 = .ok (.invokevirtual 87, 3) := by decide +kernel
theorem dX9_row_27 : decode cX9_row 27 = .ok (.ireturn, 1) := by decide +kernel
theorem dX9_row_28 : decode cX9_row 28 = .ok (.aload_n 0, 1) := by decide +kernel
theorem dX9_row_29 : decode cX9_row 29 = .ok (.getfield 11, 3) := by decide +kernel
theorem dX9_row_32 : decode cX9_row 32 = .ok (.iload_n 1, 1) := by decide +kernel
theorem dX9_row_33 : decode cX9_row 33 = .ok (.aaload, 1) := by decide +kernel
theorem dX9_row_34 : decode cX9_row 34 = .ok (.iload_n 2, 1) := by decide +kernel
theorem dX9_row_35 : decode cX9_row 35 = .ok (.iconst 0, 1) := by decide +kernel
theorem dX9_row_36 : decode cX9_row 36 = .ok (.invokevirtual 91, 3) := by decide +kernel
theorem dX9_row_39 : decode cX9_row 39 = .ok (.iload_n 2, 1) := by decide +kernel
theorem dX9_row_40 : decode cX9_row 40 = .ok (.ireturn, 1) := by decide +kernel
theorem dX9_lay_0 : decode cX9_lay 0 = .ok (.iload_n 1, 1) := by decide +kernel
theorem dX9_lay_1 : decode cX9_lay 1 = .ok (.invokestatic 83, 3) := by decide +kernel
theorem dX9_lay_4 : decode cX9_lay 4 = .ok (.ifCond .ne 5, 3) := by decide +kernel
theorem dX9_lay_7 : decode cX9_lay 7 = .ok (.iconst (-1), 1) := by decide +kernel
theorem dX9_lay_8 : decode cX9_lay 8 = .ok (.ireturn, 1) := by decide +kernel
theorem dX9_lay_9 : decode cX9_lay 9 = .ok (.aload_n 0, 1) := by decide +kernel
theorem dX9_lay_10 : decode cX9_lay 10 = .ok (.getfield 11, 3) := by decide +kernel
theorem dX9_lay_13 : decode cX9_lay 13 = .ok (.iload_n 1, 1) := by decide +kernel
theorem dX9_lay_14 : decode cX9_lay 14 = .ok (.aaload, 1) := by decide +kernel
theorem dX9_lay_15 : decode cX9_lay 15 = .ok (.iload_n 2, 1) := by decide +kernel
theorem dX9_lay_16 : decode cX9_lay 16 = .ok (.invokevirtual 95, 3) := by decide +kernel
theorem dX9_lay_19 : decode cX9_lay 19 = .ok (.istore 4, 2) := by decide +kernel
theorem dX9_lay_21 : decode cX9_lay 21 = .ok (.iload 4, 2) := by decide +kernel
theorem dX9_lay_23 : decode cX9_lay 23 = .ok (.ifCond .eq 13, 3) := by decide +kernel
theorem dX9_lay_26 : decode cX9_lay 26 = .ok (.aload_n 0, 1) := by decide +kernel
theorem dX9_lay_27 : decode cX9_lay 27 = .ok (.getfield 39, 3) := by decide +kernel
theorem dX9_lay_30 : decode cX9_lay 30 = .ok (.iload 4, 2) := by decide +kernel
theorem dX9_lay_32 : decode cX9_lay 32 = .ok (.invokevirtual 87, 3) := by decide +kernel
theorem dX9_lay_35 : decode cX9_lay 35 = .ok (.ireturn, 1) := by decide +kernel
theorem dX9_lay_36 : decode cX9_lay 36 = .ok (.aload_n 0, 1) := by decide +kernel
theorem dX9_lay_37 : decode cX9_lay 37 = .ok (.getfield 11, 3) := by decide +kernel
theorem dX9_lay_40 : decode cX9_lay 40 = .ok (.iload_n 1, 1) := by decide +kernel
theorem dX9_lay_41 : decode cX9_lay 41 = .ok (.aaload, 1) := by decide +kernel
theorem dX9_lay_42 : decode cX9_lay 42 = .ok (.iload_n 2, 1) := by decide +kernel
theorem dX9_lay_43 : decode cX9_lay 43 = .ok (.invokevirtual 98, 3) := by decide +kernel
theorem dX9_lay_46 : decode cX9_lay 46 = .ok (.istore 5, 2) := by decide +kernel
theorem dX9_lay_48 : decode cX9_lay 48 = .ok (.aload_n 0, 1) := by decide +kernel
theorem dX9_lay_49 : decode cX9_lay 49 = .ok (.getfield 11, 3) := by decide +kernel
theorem dX9_lay_52 : decode cX9_lay 52 = .ok (.iload_n 1, 1) := by decide +kernel
theorem dX9_lay_53 : decode cX9_lay 53 = .ok (.aaload, 1) := by decide +kernel
theorem dX9_lay_54 : decode cX9_lay 54 = .ok (.iload_n 2, 1) := by decide +kernel
theorem dX9_lay_55 : decode cX9_lay 55 = .ok (.iload_n 3, 1) := by decide +kernel
theorem dX9_lay_56 : decode cX9_lay 56 = .ok (.invokevirtual 101, 3) := by decide +kernel
theorem dX9_lay_59 : decode cX9_lay 59 = .ok (.aload_n 0, 1) := by decide +kernel
theorem dX9_lay_60 : decode cX9_lay 60 = .ok (.getfield 39, 3) := by decide +kernel
theorem dX9_lay_63 : decode cX9_lay 63 = .ok (.iload 5, 2) := by decide +kernel
theorem dX9_lay_65 : decode cX9_lay 65 = .ok (.invokevirtual 104, 3) := by decide +kernel
theorem dX9_lay_68 : decode cX9_lay 68 = .ok (.ireturn, 1) := by decide +kernel
theorem dX9_at_0 : decode cX9_at 0 = .ok (.iload_n 1, 1) := by decide +kernel
theorem dX9_at_1 : decode cX9_at 1 = .ok (.invokestatic 83, 3) := by decide +kernel
theorem dX9_at_4 : decode cX9_at 4 = .ok (.ifCond .ne 5, 3) := by decide +kernel
theorem dX9_at_7 : decode cX9_at 7 = .ok (.iconst (-1), 1) := by decide +kernel
theorem dX9_at_8 : decode cX9_at 8 = .ok (.ireturn, 1) := by decide +kernel
theorem dX9_at_9 : decode cX9_at 9 = .ok (.aload_n 0, 1) := by decide +kernel
theorem dX9_at_10 : decode cX9_at 10 = .ok (.getfield 11, 3) := by decide +kernel
theorem dX9_at_13 : decode cX9_at 13 = .ok (.iload_n 1, 1) := by decide +kernel
theorem dX9_at_14 : decode cX9_at 14 = .ok (.aaload, 1) := by decide +kernel
theorem dX9_at_15 : decode cX9_at 15 = .ok (.iload_n 2, 1) := by decide +kernel
theorem dX9_at_16 : decode cX9_at 16 = .ok (.invokevirtual 95, 3) := by decide +kernel
theorem dX9_at_19 : decode cX9_at 19 = .ok (.istore_n 3, 1) := by decide +kernel
theorem dX9_at_20 : decode cX9_at 20 = .ok (.iload_n 3, 1) := by decide +kernel
theorem dX9_at_21 : decode cX9_at 21 = .ok (.ifCond .eq 14, 3) := by decide +kernel
theorem dX9_at_24 : decode cX9_at 24 = .ok (.aload_n 0, 1) := by decide +kernel
theorem dX9_at_25 : decode cX9_at 25 = .ok (.getfield 39, 3) := by decide +kernel
theorem dX9_at_28 : decode cX9_at 28 = .ok (.iload_n 3, 1) := by decide +kernel
theorem dX9_at_29 : decode cX9_at 29 = .ok (.invokevirtual 87, 3) := by decide +kernel
theorem dX9_at_32 : decode cX9_at 32 = .ok (.goto 20, 3) := by decide +kernel
theorem dX9_at_35 : decode cX9_at 35 = .ok (.aload_n 0, 1) := by decide +kernel
theorem dX9_at_36 : decode cX9_at 36 = .ok (.getfield 39, 3) := by decide +kernel
theorem dX9_at_39 : decode cX9_at 39 = .ok (.aload_n 0, 1) := by decide +kernel
theorem dX9_at_40 : decode cX9_at 40 = .ok (.getfield 11, 3) := by decide +kernel
theorem dX9_at_43 : decode cX9_at 43 = .ok (.iload_n 1, 1) := by decide +kernel
theorem dX9_at_44 : decode cX9_at 44 = .ok (.aaload, 1) := by decide +kernel
theorem dX9_at_45 : decode cX9_at 45 = .ok (.iload_n 2, 1) := by decide +kernel
theorem dX9_at_46 : decode cX9_at 46 = .ok (.invokevirtual 98, 3) := by decide +kernel
theorem dX9_at_49 : decode cX9_at 49 = .ok (.invokevirtual 104, 3) := by decide +kernel
theorem dX9_at_52 : decode cX9_at 52 = .ok (.ireturn, 1) := by decide +kernel
theorem dX9_tear_0 : decode cX9_tear 0 = .ok (.iload_n 1, 1) := by decide +kernel
theorem dX9_tear_1 : decode cX9_tear 1 = .ok (.invokestatic 83, 3) := by decide +kernel
theorem dX9_tear_4 : decode cX9_tear 4 = .ok (.ifCond .ne 5, 3) := by decide +kernel
theorem dX9_tear_7 : decode cX9_tear 7 = .ok (.iconst (-1), 1) := by decide +kernel
theorem dX9_tear_8 : decode cX9_tear 8 = .ok (.ireturn, 1) := by decide +kernel
theorem dX9_tear_9 : decode cX9_tear 9 = .ok (.aload_n 0, 1) := by decide +kernel
theorem dX9_tear_10 : decode cX9_tear 10 = .ok (.getfield 11, 3) := by decide +kernel
theorem dX9_tear_13 : decode cX9_tear 13 = .ok (.iload_n 1, 1) := by decide +kernel
theorem dX9_tear_14 : decode cX9_tear 14 = .ok (.aaload, 1) := by decide +kernel
theorem dX9_tear_15 : decode cX9_tear 15 = .ok (.invokevirtual 107, 3) := by decide +kernel
theorem dX9_tear_18 : decode cX9_tear 18 = .ok (.ifCond .eq 12, 3) := by decide +kernel
theorem dX9_tear_21 : decode cX9_tear 21 = .ok (.aload_n 0, 1) := by decide +kernel
theorem dX9_tear_22 : decode cX9_tear 22 = .ok (.getfield 39, 3) := by decide +kernel
theorem dX9_tear_25 : decode cX9_tear 25 = .ok (.iconst 1, 1) := by decide +kernel
theorem dX9_tear_26 : decode cX9_tear 26 = .ok (.invokevirtual 87, 3) := by decide +kernel
theorem dX9_tear_29 : decode cX9_tear 29 = .ok (.ireturn, 1) := by decide +kernel
theorem dX9_tear_30 : decode cX9_tear 30 = .ok (.aload_n 0, 1) := by decide +kernel
theorem dX9_tear_31 : decode cX9_tear 31 = .ok (.getfield 11, 3) := by decide +kernel
theorem dX9_tear_34 : decode cX9_tear 34 = .ok (.iload_n 1, 1) := by decide +kernel
theorem dX9_tear_35 : decode cX9_tear 35 = .ok (.aaload, 1) := by decide +kernel
theorem dX9_tear_36 : decode cX9_tear 36 = .ok (.invokevirtual 111, 3) := by decide +kernel
theorem dX9_tear_39 : decode cX9_tear 39 = .ok (.iconst 1, 1) := by decide +kernel
theorem dX9_tear_40 : decode cX9_tear 40 = .ok (.ireturn, 1) := by decide +kernel
theorem dX9_copy_0 : decode cX9_copy 0 = .ok (.iload_n 1, 1) := by decide +kernel
theorem dX9_copy_1 : decode cX9_copy 1 = .ok (.invokestatic 83, 3) := by decide +kernel
theorem dX9_copy_4 : decode cX9_copy 4 = .ok (.ifCond .eq 10, 3) := by decide +kernel
theorem dX9_copy_7 : decode cX9_copy 7 = .ok (.iload_n 3, 1) := by decide +kernel
theorem dX9_copy_8 : decode cX9_copy 8 = .ok (.invokestatic 83, 3) := by decide +kernel
theorem dX9_copy_11 : decode cX9_copy 11 = .ok (.ifCond .ne 5, 3) := by decide +kernel
theorem dX9_copy_14 : decode cX9_copy 14 = .ok (.iconst (-1), 1) := by decide +kernel
theorem dX9_copy_15 : decode cX9_copy 15 = .ok (.ireturn, 1) := by decide +kernel
theorem dX9_copy_16 : decode cX9_copy 16 = .ok (.iload 5, 2) := by decide +kernel
theorem dX9_copy_18 : decode cX9_copy 18 = .ok (.ifCond .ge 12, 3) := by decide +kernel
theorem dX9_copy_21 : decode cX9_copy 21 = .ok (.aload_n 0, 1) := by decide +kernel
theorem dX9_copy_22 : decode cX9_copy 22 = .ok (.getfield 39, 3) := by decide +kernel
theorem dX9_copy_25 : decode cX9_copy 25 = .ok (.iconst 5, 1) := by decide +kernel
theorem dX9_copy_26 : decode cX9_copy 26 = .ok (.invokevirtual 87, 3) := by decide +kernel
theorem dX9_copy_29 : decode cX9_copy 29 = .ok (.ireturn, 1) := by decide +kernel
theorem dX9_copy_30 : decode cX9_copy 30 = .ok (.aload_n 0, 1) := by decide +kernel
theorem dX9_copy_31 : decode cX9_copy 31 = .ok (.getfield 11, 3) := by decide +kernel
theorem dX9_copy_34 : decode cX9_copy 34 = .ok (.iload_n 1, 1) := by decide +kernel
theorem dX9_copy_35 : decode cX9_copy 35 = .ok (.aaload, 1) := by decide +kernel
theorem dX9_copy_36 : decode cX9_copy 36 = .ok (.invokevirtual 107, 3) := by decide +kernel
theorem dX9_copy_39 : decode cX9_copy 39 = .ok (.ifCond .ne 15, 3) := by decide +kernel
theorem dX9_copy_42 : decode cX9_copy 42 = .ok (.aload_n 0, 1) := by decide +kernel
theorem dX9_copy_43 : decode cX9_copy 43 = .ok (.getfield 11, 3) := by decide +kernel
theorem dX9_copy_46 : decode cX9_copy 46 = .ok (.iload_n 3, 1) := by decide +kernel
theorem dX9_copy_47 : decode cX9_copy 47 = .ok (.aaload, 1) := by decide +kernel
theorem dX9_copy_48 : decode cX9_copy 48 = .ok (.invokevirtual 107, 3) := by decide +kernel
theorem dX9_copy_51 : decode cX9_copy 51 = .ok (.ifCond .eq 12, 3) := by decide +kernel
theorem dX9_copy_54 : decode cX9_copy 54 = .ok (.aload_n 0, 1) := by decide +kernel
theorem dX9_copy_55 : decode cX9_copy 55 = .ok (.getfield 39, 3) := by decide +kernel
theorem dX9_copy_58 : decode cX9_copy 58 = .ok (.iconst 1, 1) := by decide +kernel
theorem dX9_copy_59 : decode cX9_copy 59 = .ok (.invokevirtual 87, 3) := by decide +kernel
theorem dX9_copy_62 : decode cX9_copy 62 = .ok (.ireturn, 1) := by decide +kernel
theorem dX9_copy_63 : decode cX9_copy 63 = .ok (.aload_n 0, 1) := by decide +kernel
theorem dX9_copy_64 : decode cX9_copy 64 = .ok (.getfield 11, 3) := by decide +kernel
theorem dX9_copy_67 : decode cX9_copy 67 = .ok (.iload_n 1, 1) := by decide +kernel
theorem dX9_copy_68 : decode cX9_copy 68 = .ok (.aaload, 1) := by decide +kernel
theorem dX9_copy_69 : decode cX9_copy 69 = .ok (.iload_n 2, 1) := by decide +kernel
theorem dX9_copy_70 : decode cX9_copy 70 = .ok (.iload 5, 2) := by decide +kernel
theorem dX9_copy_72 : decode cX9_copy 72 = .ok (.invokevirtual 114, 3) := by decide +kernel
theorem dX9_copy_75 : decode cX9_copy 75 = .ok (.ifCond .eq 19, 3) := by decide +kernel
theorem dX9_copy_78 : decode cX9_copy 78 = .ok (.aload_n 0, 1) := by decide +kernel
theorem dX9_copy_79 : decode cX9_copy 79 = .ok (.getfield 11, 3) := by decide +kernel
theorem dX9_copy_82 : decode cX9_copy 82 = .ok (.iload_n 3, 1) := by decide +kernel
theorem dX9_copy_83 : decode cX9_copy 83 = .ok (.aaload, 1) := by decide +kernel
theorem dX9_copy_84 : decode cX9_copy 84 = .ok (.iload 4, 2) := by decide +kernel
theorem dX9_copy_86 : decode cX9_copy 86 = .ok (.iload 5, 2) := by decide +kernel
theorem dX9_copy_88 : decode cX9_copy 88 = .ok (.invokevirtual 114, 3) := by decide +kernel
theorem dX9_copy_91 : decode cX9_copy 91 = .ok (.ifCond .ne 12, 3) := by decide +kernel
theorem dX9_copy_94 : decode cX9_copy 94 = .ok (.aload_n 0, 1) := by decide +kernel
theorem dX9_copy_95 : decode cX9_copy 95 = .ok (.getfield 39, 3) := by decide +kernel
theorem dX9_copy_98 : decode cX9_copy 98 = .ok (.iconst 2, 1) := by decide +kernel
theorem dX9_copy_99 : decode cX9_copy 99 = .ok (.invokevirtual 87, 3) := by decide +kernel
theorem dX9_copy_102 : decode cX9_copy 102 = .ok (.ireturn, 1) := by decide +kernel
theorem dX9_copy_103 : decode cX9_copy 103 = .ok (.aload_n 0, 1) := by decide +kernel
theorem dX9_copy_104 : decode cX9_copy 104 = .ok (.getfield 11, 3) := by decide +kernel
theorem dX9_copy_107 : decode cX9_copy 107 = .ok (.iload_n 1, 1) := by decide +kernel
theorem dX9_copy_108 : decode cX9_copy 108 = .ok (.aaload, 1) := by decide +kernel
theorem dX9_copy_109 : decode cX9_copy 109 = .ok (.getfield 118, 3) := by decide +kernel
theorem dX9_copy_112 : decode cX9_copy 112 = .ok (.iload_n 2, 1) := by decide +kernel
theorem dX9_copy_113 : decode cX9_copy 113 = .ok (.aload_n 0, 1) := by decide +kernel
theorem dX9_copy_114 : decode cX9_copy 114 = .ok (.getfield 11, 3) := by decide +kernel
theorem dX9_copy_117 : decode cX9_copy 117 = .ok (.iload_n 3, 1) := by decide +kernel
theorem dX9_copy_118 : decode cX9_copy 118 = .ok (.aaload, 1) := by decide +kernel
theorem dX9_copy_119 : decode cX9_copy 119 = .ok (.getfield 118, 3) := by decide +kernel
theorem dX9_copy_122 : decode cX9_copy 122 = .ok (.iload 4, 2) := by decide +kernel
theorem dX9_copy_124 : decode cX9_copy 124 = .ok (.iload 5, 2) := by decide +kernel
theorem dX9_copy_126 : decode cX9_copy 126 = .ok (.invokestatic 122, 3) := by decide +kernel
theorem dX9_copy_129 : decode cX9_copy 129 = .ok (.iconst 1, 1) := by decide +kernel
theorem dX9_copy_130 : decode cX9_copy 130 = .ok (.ireturn, 1) := by decide +kernel
theorem dX9_mean_0 : decode cX9_mean 0 = .ok (.iload_n 1, 1) := by decide +kernel
theorem dX9_mean_1 : decode cX9_mean 1 = .ok (.invokestatic 83, 3) := by decide +kernel
theorem dX9_mean_4 : decode cX9_mean 4 = .ok (.ifCond .ne 5, 3) := by decide +kernel
theorem dX9_mean_7 : decode cX9_mean 7 = .ok (.iconst (-1), 1) := by decide +kernel
theorem dX9_mean_8 : decode cX9_mean 8 = .ok (.ireturn, 1) := by decide +kernel
theorem dX9_mean_9 : decode cX9_mean 9 = .ok (.aload_n 0, 1) := by decide +kernel
theorem dX9_mean_10 : decode cX9_mean 10 = .ok (.getfield 11, 3) := by decide +kernel
theorem dX9_mean_13 : decode cX9_mean 13 = .ok (.iload_n 1, 1) := by decide +kernel
theorem dX9_mean_14 : decode cX9_mean 14 = .ok (.aaload, 1) := by decide +kernel
theorem dX9_mean_15 : decode cX9_mean 15 = .ok (.invokevirtual 107, 3) := by decide +kernel
theorem dX9_mean_18 : decode cX9_mean 18 = .ok (.ifCond .eq 12, 3) := by decide +kernel
theorem dX9_mean_21 : decode cX9_mean 21 = .ok (.aload_n 0, 1) := by decide +kernel
theorem dX9_mean_22 : decode cX9_mean 22 = .ok (.getfield 39, 3) := by decide +kernel
theorem dX9_mean_25 : decode cX9_mean 25 = .ok (.iconst 1, 1) := by decide +kernel
theorem dX9_mean_26 : decode cX9_mean 26 = .ok (.invokevirtual 87, 3) := by decide +kernel
theorem dX9_mean_29 : decode cX9_mean 29 = .ok (.ireturn, 1) := by decide +kernel
theorem dX9_mean_30 : decode cX9_mean 30 = .ok (.aload_n 0, 1) := by decide +kernel
theorem dX9_mean_31 : decode cX9_mean 31 = .ok (.getfield 11, 3) := by decide +kernel
theorem dX9_mean_34 : decode cX9_mean 34 = .ok (.iload_n 1, 1) := by decide +kernel
theorem dX9_mean_35 : decode cX9_mean 35 = .ok (.aaload, 1) := by decide +kernel
theorem dX9_mean_36 : decode cX9_mean 36 = .ok (.getfield 128, 3) := by decide +kernel
theorem dX9_mean_39 : decode cX9_mean 39 = .ok (.istore_n 2, 1) := by decide +kernel
theorem dX9_mean_40 : decode cX9_mean 40 = .ok (.iload_n 2, 1) := by decide +kernel
theorem dX9_mean_41 : decode cX9_mean 41 = .ok (.ifCond .ne 12, 3) := by decide +kernel
theorem dX9_mean_44 : decode cX9_mean 44 = .ok (.aload_n 0, 1) := by decide +kernel
theorem dX9_mean_45 : decode cX9_mean 45 = .ok (.getfield 39, 3) := by decide +kernel
theorem dX9_mean_48 : decode cX9_mean 48 = .ok (.iconst 4, 1) := by decide +kernel
theorem dX9_mean_49 : decode cX9_mean 49 = .ok (.invokevirtual 87, 3) := by decide +kernel
theorem dX9_mean_52 : decode cX9_mean 52 = .ok (.ireturn, 1) := by decide +kernel
theorem dX9_mean_53 : decode cX9_mean 53 = .ok (.aload_n 0, 1) := by decide +kernel
theorem dX9_mean_54 : decode cX9_mean 54 = .ok (.getfield 39, 3) := by decide +kernel
theorem dX9_mean_57 : decode cX9_mean 57 = .ok (.aload_n 0, 1) := by decide +kernel
theorem dX9_mean_58 : decode cX9_mean 58 = .ok (.getfield 11, 3) := by decide +kernel
theorem dX9_mean_61 : decode cX9_mean 61 = .ok (.iload_n 1, 1) := by decide +kernel
theorem dX9_mean_62 : decode cX9_mean 62 = .ok (.aaload, 1) := by decide +kernel
theorem dX9_mean_63 : decode cX9_mean 63 = .ok (.invokevirtual 132, 3) := by decide +kernel
theorem dX9_mean_66 : decode cX9_mean 66 = .ok (.iload_n 2, 1) := by decide +kernel
theorem dX9_mean_67 : decode cX9_mean 67 = .ok (.i2l, 1) := by decide +kernel
theorem dX9_mean_68 : decode cX9_mean 68 = .ok (.ldiv, 1) := by decide +kernel
theorem dX9_mean_69 : decode cX9_mean 69 = .ok (.l2i, 1) := by decide +kernel
theorem dX9_mean_70 : decode cX9_mean 70 = .ok (.invokevirtual 104, 3) := by decide +kernel
theorem dX9_mean_73 : decode cX9_mean 73 = .ok (.ireturn, 1) := by decide +kernel
theorem dX9_text_0 : decode cX9_text 0 = .ok (.iload_n 1, 1) := by decide +kernel
theorem dX9_text_1 : decode cX9_text 1 = .ok (.invokestatic 136, 3) := by decide +kernel
theorem dX9_text_4 : decode cX9_text 4 = .ok (.ifCond .eq 9, 3) := by decide +kernel
theorem dX9_text_7 : decode cX9_text 7 = .ok (.iload_n 2, 1) := by decide +kernel
theorem dX9_text_8 : decode cX9_text 8 = .ok (.bipush 120, 2) := by decide +kernel
theorem dX9_text_10 : decode cX9_text 10 = .ok (.if_icmp .le 5, 3) := by decide +kernel
theorem dX9_text_13 : decode cX9_text 13 = .ok (.iconst (-1), 1) := by decide +kernel
theorem dX9_text_14 : decode cX9_text 14 = .ok (.ireturn, 1) := by decide +kernel
theorem dX9_text_15 : decode cX9_text 15 = .ok (.iload_n 2, 1) := by decide +kernel
theorem dX9_text_16 : decode cX9_text 16 = .ok (.ifCond .ge 12, 3) := by decide +kernel
theorem dX9_text_19 : decode cX9_text 19 = .ok (.aload_n 0, 1) := by decide +kernel
theorem dX9_text_20 : decode cX9_text 20 = .ok (.getfield 39, 3) := by decide +kernel
theorem dX9_text_23 : decode cX9_text 23 = .ok (.iconst 5, 1) := by decide +kernel
theorem dX9_text_24 : decode cX9_text 24 = .ok (.invokevirtual 87, 3) := by decide +kernel
theorem dX9_text_27 : decode cX9_text 27 = .ok (.ireturn, 1) := by decide +kernel
theorem dX9_text_28 : decode cX9_text 28 = .ok (.aload_n 0, 1) := by decide +kernel
theorem dX9_text_29 : decode cX9_text 29 = .ok (.getfield 15, 3) := by decide +kernel
theorem dX9_text_32 : decode cX9_text 32 = .ok (.iload_n 1, 1) := by decide +kernel
theorem dX9_text_33 : decode cX9_text 33 = .ok (.aaload, 1) := by decide +kernel
theorem dX9_text_34 : decode cX9_text 34 = .ok (.iload_n 2, 1) := by decide +kernel
theorem dX9_text_35 : decode cX9_text 35 = .ok (.bipush 32, 2) := by decide +kernel
theorem dX9_text_37 : decode cX9_text 37 = .ok (.invokevirtual 91, 3) := by decide +kernel
theorem dX9_text_40 : decode cX9_text 40 = .ok (.iload_n 2, 1) := by decide +kernel
theorem dX9_text_41 : decode cX9_text 41 = .ok (.ireturn, 1) := by decide +kernel
theorem dX9_put_0 : decode cX9_put 0 = .ok (.iload_n 1, 1) := by decide +kernel
theorem dX9_put_1 : decode cX9_put 1 = .ok (.invokestatic 136, 3) := by decide +kernel
theorem dX9_put_4 : decode cX9_put 4 = .ok (.ifCond .ne 5, 3) := by decide +kernel
theorem dX9_put_7 : decode cX9_put 7 = .ok (.iconst (-1), 1) := by decide +kernel
theorem dX9_put_8 : decode cX9_put 8 = .ok (.ireturn, 1) := by decide +kernel
theorem dX9_put_9 : decode cX9_put 9 = .ok (.aload_n 0, 1) := by decide +kernel
theorem dX9_put_10 : decode cX9_put 10 = .ok (.getfield 15, 3) := by decide +kernel
theorem dX9_put_13 : decode cX9_put 13 = .ok (.iload_n 1, 1) := by decide +kernel
theorem dX9_put_14 : decode cX9_put 14 = .ok (.aaload, 1) := by decide +kernel
theorem dX9_put_15 : decode cX9_put 15 = .ok (.iload_n 2, 1) := by decide +kernel
theorem dX9_put_16 : decode cX9_put 16 = .ok (.invokevirtual 95, 3) := by decide +kernel
theorem dX9_put_19 : decode cX9_put 19 = .ok (.istore 4, 2) := by decide +kernel
theorem dX9_put_21 : decode cX9_put 21 = .ok (.iload 4, 2) := by decide +kernel
theorem dX9_put_23 : decode cX9_put 23 = .ok (.ifCond .eq 13, 3) := by decide +kernel
theorem dX9_put_26 : decode cX9_put 26 = .ok (.aload_n 0, 1) := by decide +kernel
theorem dX9_put_27 : decode cX9_put 27 = .ok (.getfield 39, 3) := by decide +kernel
theorem dX9_put_30 : decode cX9_put 30 = .ok (.iload 4, 2) := by decide +kernel
theorem dX9_put_32 : decode cX9_put 32 = .ok (.invokevirtual 87, 3) := by decide +kernel
theorem dX9_put_35 : decode cX9_put 35 = .ok (.ireturn, 1) := by decide +kernel
theorem dX9_put_36 : decode cX9_put 36 = .ok (.aload_n 0, 1) := by decide +kernel
theorem dX9_put_37 : decode cX9_put 37 = .ok (.getfield 15, 3) := by decide +kernel
theorem dX9_put_40 : decode cX9_put 40 = .ok (.iload_n 1, 1) := by decide +kernel
theorem dX9_put_41 : decode cX9_put 41 = .ok (.aaload, 1) := by decide +kernel
theorem dX9_put_42 : decode cX9_put 42 = .ok (.iload_n 2, 1) := by decide +kernel
theorem dX9_put_43 : decode cX9_put 43 = .ok (.invokevirtual 98, 3) := by decide +kernel
theorem dX9_put_46 : decode cX9_put 46 = .ok (.istore 5, 2) := by decide +kernel
theorem dX9_put_48 : decode cX9_put 48 = .ok (.aload_n 0, 1) := by decide +kernel
theorem dX9_put_49 : decode cX9_put 49 = .ok (.getfield 15, 3) := by decide +kernel
theorem dX9_put_52 : decode cX9_put 52 = .ok (.iload_n 1, 1) := by decide +kernel
theorem dX9_put_53 : decode cX9_put 53 = .ok (.aaload, 1) := by decide +kernel
theorem dX9_put_54 : decode cX9_put 54 = .ok (.iload_n 2, 1) := by decide +kernel
theorem dX9_put_55 : decode cX9_put 55 = .ok (.iload_n 3, 1) := by decide +kernel
theorem dX9_put_56 : decode cX9_put 56 = .ok (.i2b, 1) := by decide +kernel
theorem dX9_put_57 : decode cX9_put 57 = .ok (.invokevirtual 101, 3) := by decide +kernel
theorem dX9_put_60 : decode cX9_put 60 = .ok (.iload 5, 2) := by decide +kernel
theorem dX9_put_62 : decode cX9_put 62 = .ok (.sipush 1000, 3) := by decide +kernel
theorem dX9_put_65 : decode cX9_put 65 = .ok (.iadd, 1) := by decide +kernel
theorem dX9_put_66 : decode cX9_put 66 = .ok (.ireturn, 1) := by decide +kernel
theorem dX9_fault_0 : decode cX9_fault 0 = .ok (.iload_n 1, 1) := by decide +kernel
theorem dX9_fault_1 : decode cX9_fault 1 = .ok (.invokestatic 136, 3) := by decide +kernel
theorem dX9_fault_4 : decode cX9_fault 4 = .ok (.ifCond .ne 5, 3) := by decide +kernel
theorem dX9_fault_7 : decode cX9_fault 7 = .ok (.iconst (-1), 1) := by decide +kernel
theorem dX9_fault_8 : decode cX9_fault 8 = .ok (.ireturn, 1) := by decide +kernel
theorem dX9_fault_9 : decode cX9_fault 9 = .ok (.aload_n 0, 1) := by decide +kernel
theorem dX9_fault_10 : decode cX9_fault 10 = .ok (.getfield 15, 3) := by decide +kernel
theorem dX9_fault_13 : decode cX9_fault 13 = .ok (.iload_n 1, 1) := by decide +kernel
theorem dX9_fault_14 : decode cX9_fault 14 = .ok (.aaload, 1) := by decide +kernel
theorem dX9_fault_15 : decode cX9_fault 15 = .ok (.invokevirtual 107, 3) := by decide +kernel
theorem dX9_fault_18 : decode cX9_fault 18 = .ok (.ifCond .eq 14, 3) := by decide +kernel
theorem dX9_fault_21 : decode cX9_fault 21 = .ok (.aload_n 0, 1) := by decide +kernel
theorem dX9_fault_22 : decode cX9_fault 22 = .ok (.getfield 39, 3) := by decide +kernel
theorem dX9_fault_25 : decode cX9_fault 25 = .ok (.iconst 1, 1) := by decide +kernel
theorem dX9_fault_26 : decode cX9_fault 26 = .ok (.invokevirtual 87, 3) := by decide +kernel
theorem dX9_fault_29 : decode cX9_fault 29 = .ok (.goto 12, 3) := by decide +kernel
theorem dX9_fault_32 : decode cX9_fault 32 = .ok (.aload_n 0, 1) := by decide +kernel
theorem dX9_fault_33 : decode cX9_fault 33 = .ok (.getfield 15, 3) := by decide +kernel
theorem dX9_fault_36 : decode cX9_fault 36 = .ok (.iload_n 1, 1) := by decide +kernel
theorem dX9_fault_37 : decode cX9_fault 37 = .ok (.aaload, 1) := by decide +kernel
theorem dX9_fault_38 : decode cX9_fault 38 = .ok (.invokevirtual 139, 3) := by decide +kernel
theorem dX9_fault_41 : decode cX9_fault 41 = .ok (.ireturn, 1) := by decide +kernel
theorem dX9_box_0 : decode cX9_box 0 = .ok (.iload_n 1, 1) := by decide +kernel
theorem dX9_box_1 : decode cX9_box 1 = .ok (.invokestatic 143, 3) := by decide +kernel
theorem dX9_box_4 : decode cX9_box 4 = .ok (.ifCond .eq 10, 3) := by decide +kernel
theorem dX9_box_7 : decode cX9_box 7 = .ok (.iload_n 2, 1) := by decide +kernel
theorem dX9_box_8 : decode cX9_box 8 = .ok (.invokestatic 136, 3) := by decide +kernel
theorem dX9_box_11 : decode cX9_box 11 = .ok (.ifCond .ne 5, 3) := by decide +kernel
theorem dX9_box_14 : decode cX9_box 14 = .ok (.iconst (-1), 1) := by decide +kernel
theorem dX9_box_15 : decode cX9_box 15 = .ok (.ireturn, 1) := by decide +kernel
theorem dX9_box_16 : decode cX9_box 16 = .ok (.aload_n 0, 1) := by decide +kernel
theorem dX9_box_17 : decode cX9_box 17 = .ok (.getfield 15, 3) := by decide +kernel
theorem dX9_box_20 : decode cX9_box 20 = .ok (.iload_n 2, 1) := by decide +kernel
theorem dX9_box_21 : decode cX9_box 21 = .ok (.aaload, 1) := by decide +kernel
theorem dX9_box_22 : decode cX9_box 22 = .ok (.invokevirtual 107, 3) := by decide +kernel
theorem dX9_box_25 : decode cX9_box 25 = .ok (.ifCond .eq 12, 3) := by decide +kernel
theorem dX9_box_28 : decode cX9_box 28 = .ok (.aload_n 0, 1) := by decide +kernel
theorem dX9_box_29 : decode cX9_box 29 = .ok (.getfield 39, 3) := by decide +kernel
theorem dX9_box_32 : decode cX9_box 32 = .ok (.iconst 1, 1) := by decide +kernel
theorem dX9_box_33 : decode cX9_box 33 = .ok (.invokevirtual 87, 3) := by decide +kernel
theorem dX9_box_36 : decode cX9_box 36 = .ok (.ireturn, 1) := by decide +kernel
theorem dX9_box_37 : decode cX9_box 37 = .ok (.aload_n 0, 1) := by decide +kernel
theorem dX9_box_38 : decode cX9_box 38 = .ok (.getfield 15, 3) := by decide +kernel
theorem dX9_box_41 : decode cX9_box 41 = .ok (.iload_n 2, 1) := by decide +kernel
theorem dX9_box_42 : decode cX9_box 42 = .ok (.aaload, 1) := by decide +kernel
theorem dX9_box_43 : decode cX9_box 43 = .ok (.invokevirtual 139, 3) := by decide +kernel
theorem dX9_box_46 : decode cX9_box 46 = .ok (.bipush (-9), 2) := by decide +kernel
theorem dX9_box_48 : decode cX9_box 48 = .ok (.if_icmp .eq 6, 3) := by decide +kernel
theorem dX9_box_51 : decode cX9_box 51 = .ok (.bipush (-4), 2) := by decide +kernel
theorem dX9_box_53 : decode cX9_box 53 = .ok (.ireturn, 1) := by decide +kernel
theorem dX9_box_54 : decode cX9_box 54 = .ok (.aload_n 0, 1) := by decide +kernel
theorem dX9_box_55 : decode cX9_box 55 = .ok (.getfield 20, 3) := by decide +kernel
theorem dX9_box_58 : decode cX9_box 58 = .ok (.iload_n 1, 1) := by decide +kernel
theorem dX9_box_59 : decode cX9_box 59 = .ok (.aaload, 1) := by decide +kernel
theorem dX9_box_60 : decode cX9_box 60 = .ok (.aload_n 0, 1) := by decide +kernel
theorem dX9_box_61 : decode cX9_box 61 = .ok (.getfield 15, 3) := by decide +kernel
theorem dX9_box_64 : decode cX9_box 64 = .ok (.iload_n 2, 1) := by decide +kernel
theorem dX9_box_65 : decode cX9_box 65 = .ok (.aaload, 1) := by decide +kernel
theorem dX9_box_66 : decode cX9_box 66 = .ok (.invokevirtual 146, 3) := by decide +kernel
theorem dX9_box_69 : decode cX9_box 69 = .ok (.aload_n 0, 1) := by decide +kernel
theorem dX9_box_70 : decode cX9_box 70 = .ok (.iconst 0, 1) := by decide +kernel
theorem dX9_box_71 : decode cX9_box 71 = .ok (.putfield 150, 3) := by decide +kernel
theorem dX9_box_74 : decode cX9_box 74 = .ok (.aload_n 0, 1) := by decide +kernel
theorem dX9_box_75 : decode cX9_box 75 = .ok (.iconst 0, 1) := by decide +kernel
theorem dX9_box_76 : decode cX9_box 76 = .ok (.putfield 153, 3) := by decide +kernel
theorem dX9_box_79 : decode cX9_box 79 = .ok (.aload_n 0, 1) := by decide +kernel
theorem dX9_box_80 : decode cX9_box 80 = .ok (.getfield 20, 3) := by decide +kernel
theorem dX9_box_83 : decode cX9_box 83 = .ok (.iload_n 1, 1) := by decide +kernel
theorem dX9_box_84 : decode cX9_box 84 = .ok (.aaload, 1) := by decide +kernel
theorem dX9_box_85 : decode cX9_box 85 = .ok (.getfield 156, 3) := by decide +kernel
theorem dX9_box_88 : decode cX9_box 88 = .ok (.ireturn, 1) := by decide +kernel
theorem dX9_usual_0 : decode cX9_usual 0 = .ok (.iload_n 1, 1) := by decide +kernel
theorem dX9_usual_1 : decode cX9_usual 1 = .ok (.invokestatic 143, 3) := by decide +kernel
theorem dX9_usual_4 : decode cX9_usual 4 = .ok (.ifCond .eq 20, 3) := by decide +kernel
theorem dX9_usual_7 : decode cX9_usual 7 = .ok (.iload_n 2, 1) := by decide +kernel
theorem dX9_usual_8 : decode cX9_usual 8 = .ok (.invokestatic 159, 3) := by decide +kernel
theorem dX9_usual_11 : decode cX9_usual 11 = .ok (.ifCond .eq 13, 3) := by decide +kernel
theorem dX9_usual_14 : decode cX9_usual 14 = .ok (.iload_n 3, 1) := by decide +kernel
theorem dX9_usual_15 : decode cX9_usual 15 = .ok (.ifCond .lt 9, 3) := by decide +kernel
theorem dX9_usual_18 : decode cX9_usual 18 = .ok (.iload_n 3, 1) := by decide +kernel
theorem dX9_usual_19 : decode cX9_usual 19 = .ok (.bipush 10, 2) := by decide +kernel
theorem dX9_usual_21 : decode cX9_usual 21 = .ok (.if_icmp .lt 5, 3) := by decide +kernel
theorem dX9_usual_24 : decode cX9_usual 24 = .ok (.iconst (-1), 1) := by decide +kernel
theorem dX9_usual_25 : decode cX9_usual 25 = .ok (.ireturn, 1) := by decide +kernel
theorem dX9_usual_26 : decode cX9_usual 26 = .ok (.aload_n 0, 1) := by decide +kernel
theorem dX9_usual_27 : decode cX9_usual 27 = .ok (.iload_n 1, 1) := by decide +kernel
theorem dX9_usual_28 : decode cX9_usual 28 = .ok (.invokevirtual 162, 3) := by decide +kernel
theorem dX9_usual_31 : decode cX9_usual 31 = .ok (.ifCond .ne 12, 3) := by decide +kernel
theorem dX9_usual_34 : decode cX9_usual 34 = .ok (.aload_n 0, 1) := by decide +kernel
theorem dX9_usual_35 : decode cX9_usual 35 = .ok (.getfield 39, 3) := by decide +kernel
theorem dX9_usual_38 : decode cX9_usual 38 = .ok (.iconst 1, 1) := by decide +kernel
theorem dX9_usual_39 : decode cX9_usual 39 = .ok (.invokevirtual 87, 3) := by decide +kernel
theorem dX9_usual_42 : decode cX9_usual 42 = .ok (.ireturn, 1) := by decide +kernel
theorem dX9_usual_43 : decode cX9_usual 43 = .ok (.aload_n 0, 1) := by decide +kernel
theorem dX9_usual_44 : decode cX9_usual 44 = .ok (.iload_n 2, 1) := by decide +kernel
theorem dX9_usual_45 : decode cX9_usual 45 = .ok (.invokevirtual 165, 3) := by decide +kernel
theorem dX9_usual_48 : decode cX9_usual 48 = .ok (.ifCond .eq 17, 3) := by decide +kernel
theorem dX9_usual_51 : decode cX9_usual 51 = .ok (.aload_n 0, 1) := by decide +kernel
theorem dX9_usual_52 : decode cX9_usual 52 = .ok (.getfield 20, 3) := by decide +kernel
theorem dX9_usual_55 : decode cX9_usual 55 = .ok (.iload_n 1, 1) := by decide +kernel
theorem dX9_usual_56 : decode cX9_usual 56 = .ok (.aaload, 1) := by decide +kernel
theorem dX9_usual_57 : decode cX9_usual 57 = .ok (.iload_n 2, 1) := by decide +kernel
theorem dX9_usual_58 : decode cX9_usual 58 = .ok (.iload_n 3, 1) := by decide +kernel
theorem dX9_usual_59 : decode cX9_usual 59 = .ok (.invokevirtual 168, 3) := by decide +kernel
theorem dX9_usual_62 : decode cX9_usual 62 = .ok (.goto 4, 3) := by decide +kernel
theorem dX9_usual_65 : decode cX9_usual 65 = .ok (.iconst (-1), 1) := by decide +kernel
theorem dX9_usual_66 : decode cX9_usual 66 = .ok (.ireturn, 1) := by decide +kernel
theorem dX9_player_0 : decode cX9_player 0 = .ok (.iload_n 1, 1) := by decide +kernel
theorem dX9_player_1 : decode cX9_player 1 = .ok (.ifCond .lt 31, 3) := by decide +kernel
theorem dX9_player_4 : decode cX9_player 4 = .ok (.iload_n 1, 1) := by decide +kernel
theorem dX9_player_5 : decode cX9_player 5 = .ok (.bipush 6, 2) := by decide +kernel
theorem dX9_player_7 : decode cX9_player 7 = .ok (.if_icmp .ge 25, 3) := by decide +kernel
theorem dX9_player_10 : decode cX9_player 10 = .ok (.iload_n 2, 1) := by decide +kernel
theorem dX9_player_11 : decode cX9_player 11 = .ok (.invokestatic 143, 3) := by decide +kernel
theorem dX9_player_14 : decode cX9_player 14 = .ok (.ifCond .eq 18, 3) := by decide +kernel
theorem dX9_player_17 : decode cX9_player 17 = .ok (.iload_n 3, 1) := by decide +kernel
theorem dX9_player_18 : decode cX9_player 18 = .ok (.iconst 1, 1) := by decide +kernel
theorem dX9_player_19 : decode cX9_player 19 = .ok (.if_icmp .lt 13, 3) := by decide +kernel
theorem dX9_player_22 : decode cX9_player 22 = .ok (.iload_n 3, 1) := by decide +kernel
theorem dX9_player_23 : decode cX9_player 23 = .ok (.bipush 6, 2) := by decide +kernel
theorem dX9_player_25 : decode cX9_player 25 = .ok (.if_icmp .gt 7, 3) := by decide +kernel
theorem dX9_player_28 : decode cX9_player 28 = .ok (.iconst 1, 1) := by decide +kernel
theorem dX9_player_29 : decode cX9_player 29 = .ok (.goto 4, 3) := by decide +kernel
theorem dX9_player_32 : decode cX9_player 32 = .ok (.iconst 0, 1) := by decide +kernel
theorem dX9_player_33 : decode cX9_player 33 = .ok (.istore 5, 2) := by decide +kernel
theorem dX9_player_35 : decode cX9_player 35 = .ok (.iload 5, 2) := by decide +kernel
theorem dX9_player_37 : decode cX9_player 37 = .ok (.ifCond .eq 11, 3) := by decide +kernel
theorem dX9_player_40 : decode cX9_player 40 = .ok (.iload 4, 2) := by decide +kernel
theorem dX9_player_42 : decode cX9_player 42 = .ok (.invokestatic 159, 3) := by decide +kernel
theorem dX9_player_45 : decode cX9_player 45 = .ok (.ifCond .ne 5, 3) := by decide +kernel
theorem dX9_player_48 : decode cX9_player 48 = .ok (.iconst (-1), 1) := by decide +kernel
theorem dX9_player_49 : decode cX9_player 49 = .ok (.ireturn, 1) := by decide +kernel
theorem dX9_player_50 : decode cX9_player 50 = .ok (.aload_n 0, 1) := by decide +kernel
theorem dX9_player_51 : decode cX9_player 51 = .ok (.iload_n 2, 1) := by decide +kernel
theorem dX9_player_52 : decode cX9_player 52 = .ok (.invokevirtual 162, 3) := by decide +kernel
theorem dX9_player_55 : decode cX9_player 55 = .ok (.ifCond .ne 12, 3) := by decide +kernel
theorem dX9_player_58 : decode cX9_player 58 = .ok (.aload_n 0, 1) := by decide +kernel
theorem dX9_player_59 : decode cX9_player 59 = .ok (.getfield 39, 3) := by decide +kernel
theorem dX9_player_62 : decode cX9_player 62 = .ok (.iconst 1, 1) := by decide +kernel
theorem dX9_player_63 : decode cX9_player 63 = .ok (.invokevirtual 87, 3) := by decide +kernel
theorem dX9_player_66 : decode cX9_player 66 = .ok (.ireturn, 1) := by decide +kernel
theorem dX9_player_67 : decode cX9_player 67 = .ok (.aload_n 0, 1) := by decide +kernel
theorem dX9_player_68 : decode cX9_player 68 = .ok (.iload 4, 2) := by decide +kernel
theorem dX9_player_70 : decode cX9_player 70 = .ok (.invokevirtual 165, 3) := by decide +kernel
theorem dX9_player_73 : decode cX9_player 73 = .ok (.ifCond .ne 5, 3) := by decide +kernel
theorem dX9_player_76 : decode cX9_player 76 = .ok (.iconst (-1), 1) := by decide +kernel
theorem dX9_player_77 : decode cX9_player 77 = .ok (.ireturn, 1) := by decide +kernel
theorem dX9_player_78 : decode cX9_player 78 = .ok (.aload_n 0, 1) := by decide +kernel
theorem dX9_player_79 : decode cX9_player 79 = .ok (.getfield 150, 3) := by decide +kernel
theorem dX9_player_82 : decode cX9_player 82 = .ok (.bipush 8, 2) := by decide +kernel
theorem dX9_player_84 : decode cX9_player 84 = .ok (.if_icmp .lt 6, 3) := by decide +kernel
theorem dX9_player_87 : decode cX9_player 87 = .ok (.bipush (-2), 2) := by decide +kernel
theorem dX9_player_89 : decode cX9_player 89 = .ok (.ireturn, 1) := by decide +kernel
theorem dX9_player_90 : decode cX9_player 90 = .ok (.aload_n 0, 1) := by decide +kernel
theorem dX9_player_91 : decode cX9_player 91 = .ok (.dup, 1) := by decide +kernel
theorem dX9_player_92 : decode cX9_player 92 = .ok (.getfield 150, 3) := by decide +kernel
theorem dX9_player_95 : decode cX9_player 95 = .ok (.iconst 1, 1) := by decide +kernel
theorem dX9_player_96 : decode cX9_player 96 = .ok (.iadd, 1) := by decide +kernel
theorem dX9_player_97 : decode cX9_player 97 = .ok (.putfield 150, 3) := by decide +kernel
theorem dX9_player_100 : decode cX9_player 100 = .ok (.aload_n 0, 1) := by decide +kernel
theorem dX9_player_101 : decode cX9_player 101 = .ok (.aload_n 0, 1) := by decide +kernel
theorem dX9_player_102 : decode cX9_player 102 = .ok (.getfield 150, 3) := by decide +kernel
theorem dX9_player_105 : decode cX9_player 105 = .ok (.iconst 1, 1) := by decide +kernel
theorem dX9_player_106 : decode cX9_player 106 = .ok (.isub, 1) := by decide +kernel
theorem dX9_player_107 : decode cX9_player 107 = .ok (.iload_n 1, 1) := by decide +kernel
theorem dX9_player_108 : decode cX9_player 108 = .ok (.iload_n 2, 1) := by decide +kernel
theorem dX9_player_109 : decode cX9_player 109 = .ok (.iload_n 3, 1) := by decide +kernel
theorem dX9_player_110 : decode cX9_player 110 = .ok (.iload 4, 2) := by decide +kernel
theorem dX9_player_112 : decode cX9_player 112 = .ok (.invokevirtual 172, 3) := by decide +kernel
theorem dX9_player_115 : decode cX9_player 115 = .ok (.aload_n 0, 1) := by decide +kernel
theorem dX9_player_116 : decode cX9_player 116 = .ok (.getfield 150, 3) := by decide +kernel
theorem dX9_player_119 : decode cX9_player 119 = .ok (.iconst 1, 1) := by decide +kernel
theorem dX9_player_120 : decode cX9_player 120 = .ok (.isub, 1) := by decide +kernel
theorem dX9_player_121 : decode cX9_player 121 = .ok (.ireturn, 1) := by decide +kernel
theorem dX9_about_0 : decode cX9_about 0 = .ok (.aload_n 0, 1) := by decide +kernel
theorem dX9_about_1 : decode cX9_about 1 = .ok (.iload_n 1, 1) := by decide +kernel
theorem dX9_about_2 : decode cX9_about 2 = .ok (.invokevirtual 176, 3) := by decide +kernel
theorem dX9_about_5 : decode cX9_about 5 = .ok (.ifCond .eq 12, 3) := by decide +kernel
theorem dX9_about_8 : decode cX9_about 8 = .ok (.iload_n 2, 1) := by decide +kernel
theorem dX9_about_9 : decode cX9_about 9 = .ok (.ifCond .lt 8, 3) := by decide +kernel
theorem dX9_about_12 : decode cX9_about 12 = .ok (.iload_n 2, 1) := by decide +kernel
theorem dX9_about_13 : decode cX9_about 13 = .ok (.iconst 3, 1) := by decide +kernel
theorem dX9_about_14 : decode cX9_about 14 = .ok (.if_icmp .le 5, 3) := by decide +kernel
theorem dX9_about_17 : decode cX9_about 17 = .ok (.iconst (-1), 1) := by decide +kernel
theorem dX9_about_18 : decode cX9_about 18 = .ok (.ireturn, 1) := by decide +kernel
theorem dX9_about_19 : decode cX9_about 19 = .ok (.aload_n 0, 1) := by decide +kernel
theorem dX9_about_20 : decode cX9_about 20 = .ok (.getfield 39, 3) := by decide +kernel
theorem dX9_about_23 : decode cX9_about 23 = .ok (.aload_n 0, 1) := by decide +kernel
theorem dX9_about_24 : decode cX9_about 24 = .ok (.getfield 26, 3) := by decide +kernel
theorem dX9_about_27 : decode cX9_about 27 = .ok (.iload_n 1, 1) := by decide +kernel
theorem dX9_about_28 : decode cX9_about 28 = .ok (.aaload, 1) := by decide +kernel
theorem dX9_about_29 : decode cX9_about 29 = .ok (.iload_n 2, 1) := by decide +kernel
theorem dX9_about_30 : decode cX9_about 30 = .ok (.invokevirtual 179, 3) := by decide +kernel
theorem dX9_about_33 : decode cX9_about 33 = .ok (.invokevirtual 104, 3) := by decide +kernel
theorem dX9_about_36 : decode cX9_about 36 = .ok (.ireturn, 1) := by decide +kernel
theorem dX9_mark_0 : decode cX9_mark 0 = .ok (.aload_n 0, 1) := by decide +kernel
theorem dX9_mark_1 : decode cX9_mark 1 = .ok (.iload_n 1, 1) := by decide +kernel
theorem dX9_mark_2 : decode cX9_mark 2 = .ok (.invokevirtual 176, 3) := by decide +kernel
theorem dX9_mark_5 : decode cX9_mark 5 = .ok (.ifCond .eq 13, 3) := by decide +kernel
theorem dX9_mark_8 : decode cX9_mark 8 = .ok (.iload_n 2, 1) := by decide +kernel
theorem dX9_mark_9 : decode cX9_mark 9 = .ok (.ifCond .le 9, 3) := by decide +kernel
theorem dX9_mark_12 : decode cX9_mark 12 = .ok (.iload_n 2, 1) := by decide +kernel
theorem dX9_mark_13 : decode cX9_mark 13 = .ok (.bipush 6, 2) := by decide +kernel
theorem dX9_mark_15 : decode cX9_mark 15 = .ok (.if_icmp .lt 5, 3) := by decide +kernel
theorem dX9_mark_18 : decode cX9_mark 18 = .ok (.iconst (-1), 1) := by decide +kernel
theorem dX9_mark_19 : decode cX9_mark 19 = .ok (.ireturn, 1) := by decide +kernel
theorem dX9_mark_20 : decode cX9_mark 20 = .ok (.aload_n 0, 1) := by decide +kernel
theorem dX9_mark_21 : decode cX9_mark 21 = .ok (.getfield 26, 3) := by decide +kernel
theorem dX9_mark_24 : decode cX9_mark 24 = .ok (.iload_n 1, 1) := by decide +kernel
theorem dX9_mark_25 : decode cX9_mark 25 = .ok (.aaload, 1) := by decide +kernel
theorem dX9_mark_26 : decode cX9_mark 26 = .ok (.iload_n 2, 1) := by decide +kernel
theorem dX9_mark_27 : decode cX9_mark 27 = .ok (.invokevirtual 182, 3) := by decide +kernel
theorem dX9_mark_30 : decode cX9_mark 30 = .ok (.ifCond .ne 12, 3) := by decide +kernel
theorem dX9_mark_33 : decode cX9_mark 33 = .ok (.aload_n 0, 1) := by decide +kernel
theorem dX9_mark_34 : decode cX9_mark 34 = .ok (.getfield 39, 3) := by decide +kernel
theorem dX9_mark_37 : decode cX9_mark 37 = .ok (.iconst 3, 1) := by decide +kernel
theorem dX9_mark_38 : decode cX9_mark 38 = .ok (.invokevirtual 87, 3) := by decide +kernel
theorem dX9_mark_41 : decode cX9_mark 41 = .ok (.ireturn, 1) := by decide +kernel
theorem dX9_mark_42 : decode cX9_mark 42 = .ok (.iload_n 2, 1) := by decide +kernel
theorem dX9_mark_43 : decode cX9_mark 43 = .ok (.tableswitch 106 1 4 #[29, 51, 78, 88], 29) := by decide +kernel
theorem dX9_mark_72 : decode cX9_mark 72 = .ok (.aload_n 0, 1) := by decide +kernel
theorem dX9_mark_73 : decode cX9_mark 73 = .ok (.getfield 46, 3) := by decide +kernel
theorem dX9_mark_76 : decode cX9_mark 76 = .ok (.aload_n 0, 1) := by decide +kernel
theorem dX9_mark_77 : decode cX9_mark 77 = .ok (.getfield 26, 3) := by decide +kernel
theorem dX9_mark_80 : decode cX9_mark 80 = .ok (.iload_n 1, 1) := by decide +kernel
theorem dX9_mark_81 : decode cX9_mark 81 = .ok (.aaload, 1) := by decide +kernel
theorem dX9_mark_82 : decode cX9_mark 82 = .ok (.iconst 0, 1) := by decide +kernel
theorem dX9_mark_83 : decode cX9_mark 83 = .ok (.invokevirtual 185, 3) := by decide +kernel
theorem dX9_mark_86 : decode cX9_mark 86 = .ok (.aload_n 0, 1) := by decide +kernel
theorem dX9_mark_87 : decode cX9_mark 87 = .ok (.getfield 46, 3) := by decide +kernel
theorem dX9_mark_90 : decode cX9_mark 90 = .ok (.getfield 189, 3) := by decide +kernel
theorem dX9_mark_93 : decode cX9_mark 93 = .ok (.ireturn, 1) := by decide +kernel
theorem dX9_mark_94 : decode cX9_mark 94 = .ok (.aload_n 0, 1) := by decide +kernel
theorem dX9_mark_95 : decode cX9_mark 95 = .ok (.aload_n 0, 1) := by decide +kernel
theorem dX9_mark_96 : decode cX9_mark 96 = .ok (.getfield 26, 3) := by decide +kernel
theorem dX9_mark_99 : decode cX9_mark 99 = .ok (.iload_n 1, 1) := by decide +kernel
theorem dX9_mark_100 : decode cX9_mark 100 = .ok (.aaload, 1) := by decide +kernel
theorem dX9_mark_101 : decode cX9_mark 101 = .ok (.invokevirtual 190, 3) := by decide +kernel
theorem dX9_mark_104 : decode cX9_mark 104 = .ok (.aload_n 0, 1) := by decide +kernel
theorem dX9_mark_105 : decode cX9_mark 105 = .ok (.getfield 53, 3) := by decide +kernel
theorem dX9_mark_108 : decode cX9_mark 108 = .ok (.aload_n 0, 1) := by decide +kernel
theorem dX9_mark_109 : decode cX9_mark 109 = .ok (.getfield 26, 3) := by decide +kernel
theorem dX9_mark_112 : decode cX9_mark 112 = .ok (.iload_n 1, 1) := by decide +kernel
theorem dX9_mark_113 : decode cX9_mark 113 = .ok (.aaload, 1) := by decide +kernel
theorem dX9_mark_114 : decode cX9_mark 114 = .ok (.getfield 194, 3) := by decide +kernel
theorem dX9_mark_117 : decode cX9_mark 117 = .ok (.invokevirtual 197, 3) := by decide +kernel
theorem dX9_mark_120 : decode cX9_mark 120 = .ok (.ireturn, 1) := by decide +kernel
theorem dX9_mark_121 : decode cX9_mark 121 = .ok (.aload_n 0, 1) := by decide +kernel
theorem dX9_mark_122 : decode cX9_mark 122 = .ok (.getfield 26, 3) := by decide +kernel
theorem dX9_mark_125 : decode cX9_mark 125 = .ok (.iload_n 1, 1) := by decide +kernel
theorem dX9_mark_126 : decode cX9_mark 126 = .ok (.aaload, 1) := by decide +kernel
theorem dX9_mark_127 : decode cX9_mark 127 = .ok (.getfield 198, 3) := by decide +kernel
theorem dX9_mark_130 : decode cX9_mark 130 = .ok (.ireturn, 1) := by decide +kernel
theorem dX9_mark_131 : decode cX9_mark 131 = .ok (.aload_n 0, 1) := by decide +kernel
theorem dX9_mark_132 : decode cX9_mark 132 = .ok (.aload_n 0, 1) := by decide +kernel
theorem dX9_mark_133 : decode cX9_mark 133 = .ok (.getfield 26, 3) := by decide +kernel
theorem dX9_mark_136 : decode cX9_mark 136 = .ok (.iload_n 1, 1) := by decide +kernel
theorem dX9_mark_137 : decode cX9_mark 137 = .ok (.aaload, 1) := by decide +kernel
theorem dX9_mark_138 : decode cX9_mark 138 = .ok (.invokevirtual 190, 3) := by decide +kernel
theorem dX9_mark_141 : decode cX9_mark 141 = .ok (.aload_n 0, 1) := by decide +kernel
theorem dX9_mark_142 : decode cX9_mark 142 = .ok (.getfield 53, 3) := by decide +kernel
theorem dX9_mark_145 : decode cX9_mark 145 = .ok (.getfield 201, 3) := by decide +kernel
theorem dX9_mark_148 : decode cX9_mark 148 = .ok (.ireturn, 1) := by decide +kernel
theorem dX9_mark_149 : decode cX9_mark 149 = .ok (.aload_n 0, 1) := by decide +kernel
theorem dX9_mark_150 : decode cX9_mark 150 = .ok (.aload_n 0, 1) := by decide +kernel
theorem dX9_mark_151 : decode cX9_mark 151 = .ok (.getfield 26, 3) := by decide +kernel
theorem dX9_mark_154 : decode cX9_mark 154 = .ok (.iload_n 1, 1) := by decide +kernel
theorem dX9_mark_155 : decode cX9_mark 155 = .ok (.aaload, 1) := by decide +kernel
theorem dX9_mark_156 : decode cX9_mark 156 = .ok (.invokevirtual 204, 3) := by decide +kernel
theorem dX9_mark_159 : decode cX9_mark 159 = .ok (.ireturn, 1) := by decide +kernel
theorem dX9_draws_0 : decode cX9_draws 0 = .ok (.aload_n 0, 1) := by decide +kernel
theorem dX9_draws_1 : decode cX9_draws 1 = .ok (.iload_n 1, 1) := by decide +kernel
theorem dX9_draws_2 : decode cX9_draws 2 = .ok (.invokevirtual 176, 3) := by decide +kernel
theorem dX9_draws_5 : decode cX9_draws 5 = .ok (.ifCond .eq 18, 3) := by decide +kernel
theorem dX9_draws_8 : decode cX9_draws 8 = .ok (.aload_n 0, 1) := by decide +kernel
theorem dX9_draws_9 : decode cX9_draws 9 = .ok (.iload_n 2, 1) := by decide +kernel
theorem dX9_draws_10 : decode cX9_draws 10 = .ok (.invokevirtual 165, 3) := by decide +kernel
theorem dX9_draws_13 : decode cX9_draws 13 = .ok (.ifCond .eq 10, 3) := by decide +kernel
theorem dX9_draws_16 : decode cX9_draws 16 = .ok (.iload_n 3, 1) := by decide +kernel
theorem dX9_draws_17 : decode cX9_draws 17 = .ok (.invokestatic 83, 3) := by decide +kernel
theorem dX9_draws_20 : decode cX9_draws 20 = .ok (.ifCond .ne 5, 3) := by decide +kernel
theorem dX9_draws_23 : decode cX9_draws 23 = .ok (.iconst (-1), 1) := by decide +kernel
theorem dX9_draws_24 : decode cX9_draws 24 = .ok (.ireturn, 1) := by decide +kernel
theorem dX9_draws_25 : decode cX9_draws 25 = .ok (.aload_n 0, 1) := by decide +kernel
theorem dX9_draws_26 : decode cX9_draws 26 = .ok (.getfield 46, 3) := by decide +kernel
theorem dX9_draws_29 : decode cX9_draws 29 = .ok (.aload_n 0, 1) := by decide +kernel
theorem dX9_draws_30 : decode cX9_draws 30 = .ok (.getfield 26, 3) := by decide +kernel
theorem dX9_draws_33 : decode cX9_draws 33 = .ok (.iload_n 1, 1) := by decide +kernel
theorem dX9_draws_34 : decode cX9_draws 34 = .ok (.aaload, 1) := by decide +kernel
theorem dX9_draws_35 : decode cX9_draws 35 = .ok (.iload_n 2, 1) := by decide +kernel
theorem dX9_draws_36 : decode cX9_draws 36 = .ok (.invokevirtual 185, 3) := by decide +kernel
theorem dX9_draws_39 : decode cX9_draws 39 = .ok (.aload_n 0, 1) := by decide +kernel
theorem dX9_draws_40 : decode cX9_draws 40 = .ok (.getfield 11, 3) := by decide +kernel
theorem dX9_draws_43 : decode cX9_draws 43 = .ok (.iload_n 3, 1) := by decide +kernel
theorem dX9_draws_44 : decode cX9_draws 44 = .ok (.aaload, 1) := by decide +kernel
theorem dX9_draws_45 : decode cX9_draws 45 = .ok (.aload_n 0, 1) := by decide +kernel
theorem dX9_draws_46 : decode cX9_draws 46 = .ok (.getfield 46, 3) := by decide +kernel
theorem dX9_draws_49 : decode cX9_draws 49 = .ok (.getfield 208, 3) := by decide +kernel
theorem dX9_draws_52 : decode cX9_draws 52 = .ok (.aload_n 0, 1) := by decide +kernel
theorem dX9_draws_53 : decode cX9_draws 53 = .ok (.getfield 46, 3) := by decide +kernel
theorem dX9_draws_56 : decode cX9_draws 56 = .ok (.getfield 189, 3) := by decide +kernel
theorem dX9_draws_59 : decode cX9_draws 59 = .ok (.invokevirtual 209, 3) := by decide +kernel
theorem dX9_draws_62 : decode cX9_draws 62 = .ok (.aload_n 0, 1) := by decide +kernel
theorem dX9_draws_63 : decode cX9_draws 63 = .ok (.getfield 46, 3) := by decide +kernel
theorem dX9_draws_66 : decode cX9_draws 66 = .ok (.getfield 189, 3) := by decide +kernel
theorem dX9_draws_69 : decode cX9_draws 69 = .ok (.ireturn, 1) := by decide +kernel
theorem dX9_guess_0 : decode cX9_guess 0 = .ok (.aload_n 0, 1) := by decide +kernel
theorem dX9_guess_1 : decode cX9_guess 1 = .ok (.iload_n 1, 1) := by decide +kernel
theorem dX9_guess_2 : decode cX9_guess 2 = .ok (.invokevirtual 176, 3) := by decide +kernel
theorem dX9_guess_5 : decode cX9_guess 5 = .ok (.ifCond .eq 26, 3) := by decide +kernel
theorem dX9_guess_8 : decode cX9_guess 8 = .ok (.iload_n 2, 1) := by decide +kernel
theorem dX9_guess_9 : decode cX9_guess 9 = .ok (.invokestatic 83, 3) := by decide +kernel
theorem dX9_guess_12 : decode cX9_guess 12 = .ok (.ifCond .eq 19, 3) := by decide +kernel
theorem dX9_guess_15 : decode cX9_guess 15 = .ok (.aload_n 0, 1) := by decide +kernel
theorem dX9_guess_16 : decode cX9_guess 16 = .ok (.iload_n 3, 1) := by decide +kernel
theorem dX9_guess_17 : decode cX9_guess 17 = .ok (.invokevirtual 213, 3) := by decide +kernel
theorem dX9_guess_20 : decode cX9_guess 20 = .ok (.ifCond .eq 11, 3) := by decide +kernel
theorem dX9_guess_23 : decode cX9_guess 23 = .ok (.iload 4, 2) := by decide +kernel
theorem dX9_guess_25 : decode cX9_guess 25 = .ok (.invokestatic 83, 3) := by decide +kernel
theorem dX9_guess_28 : decode cX9_guess 28 = .ok (.ifCond .ne 5, 3) := by decide +kernel
theorem dX9_guess_31 : decode cX9_guess 31 = .ok (.iconst (-1), 1) := by decide +kernel
theorem dX9_guess_32 : decode cX9_guess 32 = .ok (.ireturn, 1) := by decide +kernel
theorem dX9_guess_33 : decode cX9_guess 33 = .ok (.aload_n 0, 1) := by decide +kernel
theorem dX9_guess_34 : decode cX9_guess 34 = .ok (.getfield 11, 3) := by decide +kernel
theorem dX9_guess_37 : decode cX9_guess 37 = .ok (.iload_n 2, 1) := by decide +kernel
theorem dX9_guess_38 : decode cX9_guess 38 = .ok (.aaload, 1) := by decide +kernel
theorem dX9_guess_39 : decode cX9_guess 39 = .ok (.invokevirtual 216, 3) := by decide +kernel
theorem dX9_guess_42 : decode cX9_guess 42 = .ok (.istore 5, 2) := by decide +kernel
theorem dX9_guess_44 : decode cX9_guess 44 = .ok (.iload 5, 2) := by decide +kernel
theorem dX9_guess_46 : decode cX9_guess 46 = .ok (.ifCond .eq 13, 3) := by decide +kernel
theorem dX9_guess_49 : decode cX9_guess 49 = .ok (.aload_n 0, 1) := by decide +kernel
theorem dX9_guess_50 : decode cX9_guess 50 = .ok (.getfield 39, 3) := by decide +kernel
theorem dX9_guess_53 : decode cX9_guess 53 = .ok (.iload 5, 2) := by decide +kernel
theorem dX9_guess_55 : decode cX9_guess 55 = .ok (.invokevirtual 87, 3) := by decide +kernel
theorem dX9_guess_58 : decode cX9_guess 58 = .ok (.ireturn, 1) := by decide +kernel
theorem dX9_guess_59 : decode cX9_guess 59 = .ok (.aload_n 0, 1) := by decide +kernel
theorem dX9_guess_60 : decode cX9_guess 60 = .ok (.getfield 46, 3) := by decide +kernel
theorem dX9_guess_63 : decode cX9_guess 63 = .ok (.aload_n 0, 1) := by decide +kernel
theorem dX9_guess_64 : decode cX9_guess 64 = .ok (.getfield 11, 3) := by decide +kernel
theorem dX9_guess_67 : decode cX9_guess 67 = .ok (.iload_n 2, 1) := by decide +kernel
theorem dX9_guess_68 : decode cX9_guess 68 = .ok (.aaload, 1) := by decide +kernel
theorem dX9_guess_69 : decode cX9_guess 69 = .ok (.invokevirtual 219, 3) := by decide +kernel
theorem dX9_guess_72 : decode cX9_guess 72 = .ok (.aload_n 0, 1) := by decide +kernel
theorem dX9_guess_73 : decode cX9_guess 73 = .ok (.getfield 53, 3) := by decide +kernel
theorem dX9_guess_76 : decode cX9_guess 76 = .ok (.aload_n 0, 1) := by decide +kernel
theorem dX9_guess_77 : decode cX9_guess 77 = .ok (.getfield 26, 3) := by decide +kernel
theorem dX9_guess_80 : decode cX9_guess 80 = .ok (.iload_n 1, 1) := by decide +kernel
theorem dX9_guess_81 : decode cX9_guess 81 = .ok (.aaload, 1) := by decide +kernel
theorem dX9_guess_82 : decode cX9_guess 82 = .ok (.aload_n 0, 1) := by decide +kernel
theorem dX9_guess_83 : decode cX9_guess 83 = .ok (.getfield 46, 3) := by decide +kernel
theorem dX9_guess_86 : decode cX9_guess 86 = .ok (.aload_n 0, 1) := by decide +kernel
theorem dX9_guess_87 : decode cX9_guess 87 = .ok (.iload_n 3, 1) := by decide +kernel
theorem dX9_guess_88 : decode cX9_guess 88 = .ok (.invokevirtual 221, 3) := by decide +kernel
theorem dX9_guess_91 : decode cX9_guess 91 = .ok (.invokevirtual 225, 3) := by decide +kernel
theorem dX9_guess_94 : decode cX9_guess 94 = .ok (.aload_n 0, 1) := by decide +kernel
theorem dX9_guess_95 : decode cX9_guess 95 = .ok (.getfield 11, 3) := by decide +kernel
theorem dX9_guess_98 : decode cX9_guess 98 = .ok (.iload 4, 2) := by decide +kernel
theorem dX9_guess_100 : decode cX9_guess 100 = .ok (.aaload, 1) := by decide +kernel
theorem dX9_guess_101 : decode cX9_guess 101 = .ok (.aload_n 0, 1) := by decide +kernel
theorem dX9_guess_102 : decode cX9_guess 102 = .ok (.getfield 53, 3) := by decide +kernel
theorem dX9_guess_105 : decode cX9_guess 105 = .ok (.getfield 229, 3) := by decide +kernel
theorem dX9_guess_108 : decode cX9_guess 108 = .ok (.aload_n 0, 1) := by decide +kernel
theorem dX9_guess_109 : decode cX9_guess 109 = .ok (.getfield 53, 3) := by decide +kernel
theorem dX9_guess_112 : decode cX9_guess 112 = .ok (.getfield 232, 3) := by decide +kernel
theorem dX9_guess_115 : decode cX9_guess 115 = .ok (.invokevirtual 209, 3) := by decide +kernel
theorem dX9_guess_118 : decode cX9_guess 118 = .ok (.aload_n 0, 1) := by decide +kernel
theorem dX9_guess_119 : decode cX9_guess 119 = .ok (.getfield 53, 3) := by decide +kernel
theorem dX9_guess_122 : decode cX9_guess 122 = .ok (.getfield 201, 3) := by decide +kernel
theorem dX9_guess_125 : decode cX9_guess 125 = .ok (.ireturn, 1) := by decide +kernel
theorem dX9_step_0 : decode cX9_step 0 = .ok (.aload_n 0, 1) := by decide +kernel
theorem dX9_step_1 : decode cX9_step 1 = .ok (.iload_n 1, 1) := by decide +kernel
theorem dX9_step_2 : decode cX9_step 2 = .ok (.invokevirtual 176, 3) := by decide +kernel
theorem dX9_step_5 : decode cX9_step 5 = .ok (.ifCond .eq 32, 3) := by decide +kernel
theorem dX9_step_8 : decode cX9_step 8 = .ok (.aload_n 0, 1) := by decide +kernel
theorem dX9_step_9 : decode cX9_step 9 = .ok (.iload_n 2, 1) := by decide +kernel
theorem dX9_step_10 : decode cX9_step 10 = .ok (.invokevirtual 176, 3) := by decide +kernel
theorem dX9_step_13 : decode cX9_step 13 = .ok (.ifCond .eq 24, 3) := by decide +kernel
theorem dX9_step_16 : decode cX9_step 16 = .ok (.iload_n 1, 1) := by decide +kernel
theorem dX9_step_17 : decode cX9_step 17 = .ok (.iload_n 2, 1) := by decide +kernel
theorem dX9_step_18 : decode cX9_step 18 = .ok (.if_icmp .eq 19, 3) := by decide +kernel
theorem dX9_step_21 : decode cX9_step 21 = .ok (.aload_n 0, 1) := by decide +kernel
theorem dX9_step_22 : decode cX9_step 22 = .ok (.iload_n 3, 1) := by decide +kernel
theorem dX9_step_23 : decode cX9_step 23 = .ok (.invokevirtual 165, 3) := by decide +kernel
theorem dX9_step_26 : decode cX9_step 26 = .ok (.ifCond .eq 11, 3) := by decide +kernel
theorem dX9_step_29 : decode cX9_step 29 = .ok (.iload 4, 2) := by decide +kernel
theorem dX9_step_31 : decode cX9_step 31 = .ok (.invokestatic 83, 3) := by decide +kernel
theorem dX9_step_34 : decode cX9_step 34 = .ok (.ifCond .ne 5, 3) := by decide +kernel
theorem dX9_step_37 : decode cX9_step 37 = .ok (.iconst (-1), 1) := by decide +kernel
theorem dX9_step_38 : decode cX9_step 38 = .ok (.ireturn, 1) := by decide +kernel
theorem dX9_step_39 : decode cX9_step 39 = .ok (.aload_n 0, 1) := by decide +kernel
theorem dX9_step_40 : decode cX9_step 40 = .ok (.getfield 46, 3) := by decide +kernel
theorem dX9_step_43 : decode cX9_step 43 = .ok (.aload_n 0, 1) := by decide +kernel
theorem dX9_step_44 : decode cX9_step 44 = .ok (.getfield 26, 3) := by decide +kernel
theorem dX9_step_47 : decode cX9_step 47 = .ok (.iload_n 1, 1) := by decide +kernel
theorem dX9_step_48 : decode cX9_step 48 = .ok (.aaload, 1) := by decide +kernel
theorem dX9_step_49 : decode cX9_step 49 = .ok (.iload_n 3, 1) := by decide +kernel
theorem dX9_step_50 : decode cX9_step 50 = .ok (.invokevirtual 185, 3) := by decide +kernel
theorem dX9_step_53 : decode cX9_step 53 = .ok (.aload_n 0, 1) := by decide +kernel
theorem dX9_step_54 : decode cX9_step 54 = .ok (.getfield 53, 3) := by decide +kernel
theorem dX9_step_57 : decode cX9_step 57 = .ok (.aload_n 0, 1) := by decide +kernel
theorem dX9_step_58 : decode cX9_step 58 = .ok (.getfield 26, 3) := by decide +kernel
theorem dX9_step_61 : decode cX9_step 61 = .ok (.iload_n 2, 1) := by decide +kernel
theorem dX9_step_62 : decode cX9_step 62 = .ok (.aaload, 1) := by decide +kernel
theorem dX9_step_63 : decode cX9_step 63 = .ok (.aload_n 0, 1) := by decide +kernel
theorem dX9_step_64 : decode cX9_step 64 = .ok (.getfield 46, 3) := by decide +kernel
theorem dX9_step_67 : decode cX9_step 67 = .ok (.aload_n 0, 1) := by decide +kernel
theorem dX9_step_68 : decode cX9_step 68 = .ok (.getfield 26, 3) := by decide +kernel
theorem dX9_step_71 : decode cX9_step 71 = .ok (.iload_n 1, 1) := by decide +kernel
theorem dX9_step_72 : decode cX9_step 72 = .ok (.aaload, 1) := by decide +kernel
theorem dX9_step_73 : decode cX9_step 73 = .ok (.invokevirtual 225, 3) := by decide +kernel
theorem dX9_step_76 : decode cX9_step 76 = .ok (.aload_n 0, 1) := by decide +kernel
theorem dX9_step_77 : decode cX9_step 77 = .ok (.getfield 11, 3) := by decide +kernel
theorem dX9_step_80 : decode cX9_step 80 = .ok (.iload 4, 2) := by decide +kernel
theorem dX9_step_82 : decode cX9_step 82 = .ok (.aaload, 1) := by decide +kernel
theorem dX9_step_83 : decode cX9_step 83 = .ok (.aload_n 0, 1) := by decide +kernel
theorem dX9_step_84 : decode cX9_step 84 = .ok (.getfield 53, 3) := by decide +kernel
theorem dX9_step_87 : decode cX9_step 87 = .ok (.getfield 229, 3) := by decide +kernel
theorem dX9_step_90 : decode cX9_step 90 = .ok (.aload_n 0, 1) := by decide +kernel
theorem dX9_step_91 : decode cX9_step 91 = .ok (.getfield 53, 3) := by decide +kernel
theorem dX9_step_94 : decode cX9_step 94 = .ok (.getfield 232, 3) := by decide +kernel
theorem dX9_step_97 : decode cX9_step 97 = .ok (.invokevirtual 209, 3) := by decide +kernel
theorem dX9_step_100 : decode cX9_step 100 = .ok (.aload_n 0, 1) := by decide +kernel
theorem dX9_step_101 : decode cX9_step 101 = .ok (.getfield 53, 3) := by decide +kernel
theorem dX9_step_104 : decode cX9_step 104 = .ok (.iload_n 3, 1) := by decide +kernel
theorem dX9_step_105 : decode cX9_step 105 = .ok (.invokevirtual 197, 3) := by decide +kernel
theorem dX9_step_108 : decode cX9_step 108 = .ok (.ireturn, 1) := by decide +kernel
theorem dX9_comes_0 : decode cX9_comes 0 = .ok (.iload_n 1, 1) := by decide +kernel
theorem dX9_comes_1 : decode cX9_comes 1 = .ok (.invokestatic 83, 3) := by decide +kernel
theorem dX9_comes_4 : decode cX9_comes 4 = .ok (.ifCond .eq 19, 3) := by decide +kernel
theorem dX9_comes_7 : decode cX9_comes 7 = .ok (.aload_n 0, 1) := by decide +kernel
theorem dX9_comes_8 : decode cX9_comes 8 = .ok (.iload_n 2, 1) := by decide +kernel
theorem dX9_comes_9 : decode cX9_comes 9 = .ok (.invokevirtual 165, 3) := by decide +kernel
theorem dX9_comes_12 : decode cX9_comes 12 = .ok (.ifCond .eq 11, 3) := by decide +kernel
theorem dX9_comes_15 : decode cX9_comes 15 = .ok (.aload_n 0, 1) := by decide +kernel
theorem dX9_comes_16 : decode cX9_comes 16 = .ok (.iload_n 3, 1) := by decide +kernel
theorem dX9_comes_17 : decode cX9_comes 17 = .ok (.invokevirtual 165, 3) := by decide +kernel
theorem dX9_comes_20 : decode cX9_comes 20 = .ok (.ifCond .ne 5, 3) := by decide +kernel
theorem dX9_comes_23 : decode cX9_comes 23 = .ok (.iconst (-1), 1) := by decide +kernel
theorem dX9_comes_24 : decode cX9_comes 24 = .ok (.ireturn, 1) := by decide +kernel
theorem dX9_comes_25 : decode cX9_comes 25 = .ok (.aload_n 0, 1) := by decide +kernel
theorem dX9_comes_26 : decode cX9_comes 26 = .ok (.iload_n 1, 1) := by decide +kernel
theorem dX9_comes_27 : decode cX9_comes 27 = .ok (.invokevirtual 233, 3) := by decide +kernel
theorem dX9_comes_30 : decode cX9_comes 30 = .ok (.istore 4, 2) := by decide +kernel
theorem dX9_comes_32 : decode cX9_comes 32 = .ok (.iload 4, 2) := by decide +kernel
theorem dX9_comes_34 : decode cX9_comes 34 = .ok (.ifCond .eq 13, 3) := by decide +kernel
theorem dX9_comes_37 : decode cX9_comes 37 = .ok (.aload_n 0, 1) := by decide +kernel
theorem dX9_comes_38 : decode cX9_comes 38 = .ok (.getfield 39, 3) := by decide +kernel
theorem dX9_comes_41 : decode cX9_comes 41 = .ok (.iload 4, 2) := by decide +kernel
theorem dX9_comes_43 : decode cX9_comes 43 = .ok (.invokevirtual 87, 3) := by decide +kernel
theorem dX9_comes_46 : decode cX9_comes 46 = .ok (.ireturn, 1) := by decide +kernel
theorem dX9_comes_47 : decode cX9_comes 47 = .ok (.aload_n 0, 1) := by decide +kernel
theorem dX9_comes_48 : decode cX9_comes 48 = .ok (.iload_n 1, 1) := by decide +kernel
theorem dX9_comes_49 : decode cX9_comes 49 = .ok (.invokevirtual 236, 3) := by decide +kernel
theorem dX9_comes_52 : decode cX9_comes 52 = .ok (.aload_n 0, 1) := by decide +kernel
theorem dX9_comes_53 : decode cX9_comes 53 = .ok (.getfield 39, 3) := by decide +kernel
theorem dX9_comes_56 : decode cX9_comes 56 = .ok (.aload_n 0, 1) := by decide +kernel
theorem dX9_comes_57 : decode cX9_comes 57 = .ok (.getfield 60, 3) := by decide +kernel
theorem dX9_comes_60 : decode cX9_comes 60 = .ok (.iconst 0, 1) := by decide +kernel
theorem dX9_comes_61 : decode cX9_comes 61 = .ok (.iload_n 2, 1) := by decide +kernel
theorem dX9_comes_62 : decode cX9_comes 62 = .ok (.iload_n 3, 1) := by decide +kernel
theorem dX9_comes_63 : decode cX9_comes 63 = .ok (.invokevirtual 239, 3) := by decide +kernel
theorem dX9_comes_66 : decode cX9_comes 66 = .ok (.aload_n 0, 1) := by decide +kernel
theorem dX9_comes_67 : decode cX9_comes 67 = .ok (.getfield 60, 3) := by decide +kernel
theorem dX9_comes_70 : decode cX9_comes 70 = .ok (.invokevirtual 243, 3) := by decide +kernel
theorem dX9_comes_73 : decode cX9_comes 73 = .ok (.invokevirtual 246, 3) := by decide +kernel
theorem dX9_comes_76 : decode cX9_comes 76 = .ok (.ireturn, 1) := by decide +kernel
theorem dX9_most_0 : decode cX9_most 0 = .ok (.iload_n 1, 1) := by decide +kernel
theorem dX9_most_1 : decode cX9_most 1 = .ok (.invokestatic 83, 3) := by decide +kernel
theorem dX9_most_4 : decode cX9_most 4 = .ok (.ifCond .ne 5, 3) := by decide +kernel
theorem dX9_most_7 : decode cX9_most 7 = .ok (.iconst (-1), 1) := by decide +kernel
theorem dX9_most_8 : decode cX9_most 8 = .ok (.ireturn, 1) := by decide +kernel
theorem dX9_most_9 : decode cX9_most 9 = .ok (.aload_n 0, 1) := by decide +kernel
theorem dX9_most_10 : decode cX9_most 10 = .ok (.iload_n 1, 1) := by decide +kernel
theorem dX9_most_11 : decode cX9_most 11 = .ok (.invokevirtual 233, 3) := by decide +kernel
theorem dX9_most_14 : decode cX9_most 14 = .ok (.istore_n 2, 1) := by decide +kernel
theorem dX9_most_15 : decode cX9_most 15 = .ok (.iload_n 2, 1) := by decide +kernel
theorem dX9_most_16 : decode cX9_most 16 = .ok (.ifCond .eq 12, 3) := by decide +kernel
theorem dX9_most_19 : decode cX9_most 19 = .ok (.aload_n 0, 1) := by decide +kernel
theorem dX9_most_20 : decode cX9_most 20 = .ok (.getfield 39, 3) := by decide +kernel
theorem dX9_most_23 : decode cX9_most 23 = .ok (.iload_n 2, 1) := by decide +kernel
theorem dX9_most_24 : decode cX9_most 24 = .ok (.invokevirtual 87, 3) := by decide +kernel
theorem dX9_most_27 : decode cX9_most 27 = .ok (.ireturn, 1) := by decide +kernel
theorem dX9_most_28 : decode cX9_most 28 = .ok (.aload_n 0, 1) := by decide +kernel
theorem dX9_most_29 : decode cX9_most 29 = .ok (.iload_n 1, 1) := by decide +kernel
theorem dX9_most_30 : decode cX9_most 30 = .ok (.invokevirtual 236, 3) := by decide +kernel
theorem dX9_most_33 : decode cX9_most 33 = .ok (.aload_n 0, 1) := by decide +kernel
theorem dX9_most_34 : decode cX9_most 34 = .ok (.getfield 60, 3) := by decide +kernel
theorem dX9_most_37 : decode cX9_most 37 = .ok (.invokevirtual 250, 3) := by decide +kernel
theorem dX9_most_40 : decode cX9_most 40 = .ok (.aload_n 0, 1) := by decide +kernel
theorem dX9_most_41 : decode cX9_most 41 = .ok (.getfield 60, 3) := by decide +kernel
theorem dX9_most_44 : decode cX9_most 44 = .ok (.iconst 0, 1) := by decide +kernel
theorem dX9_most_45 : decode cX9_most 45 = .ok (.invokevirtual 253, 3) := by decide +kernel
theorem dX9_most_48 : decode cX9_most 48 = .ok (.iconst 0, 1) := by decide +kernel
theorem dX9_most_49 : decode cX9_most 49 = .ok (.istore_n 3, 1) := by decide +kernel
theorem dX9_most_50 : decode cX9_most 50 = .ok (.iconst 1, 1) := by decide +kernel
theorem dX9_most_51 : decode cX9_most 51 = .ok (.istore 4, 2) := by decide +kernel
theorem dX9_most_53 : decode cX9_most 53 = .ok (.iload 4, 2) := by decide +kernel
theorem dX9_most_55 : decode cX9_most 55 = .ok (.aload_n 0, 1) := by decide +kernel
theorem dX9_most_56 : decode cX9_most 56 = .ok (.getfield 60, 3) := by decide +kernel
theorem dX9_most_59 : decode cX9_most 59 = .ok (.getfield 256, 3) := by decide +kernel
theorem dX9_most_62 : decode cX9_most 62 = .ok (.if_icmp .ge 35, 3) := by decide +kernel
theorem dX9_most_65 : decode cX9_most 65 = .ok (.aload_n 0, 1) := by decide +kernel
theorem dX9_most_66 : decode cX9_most 66 = .ok (.getfield 60, 3) := by decide +kernel
theorem dX9_most_69 : decode cX9_most 69 = .ok (.getfield 257, 3) := by decide +kernel
theorem dX9_most_72 : decode cX9_most 72 = .ok (.iload 4, 2) := by decide +kernel
theorem dX9_most_74 : decode cX9_most 74 = .ok (.laload, 1) := by decide +kernel
theorem dX9_most_75 : decode cX9_most 75 = .ok (.aload_n 0, 1) := by decide +kernel
theorem dX9_most_76 : decode cX9_most 76 = .ok (.getfield 60, 3) := by decide +kernel
theorem dX9_most_79 : decode cX9_most 79 = .ok (.getfield 257, 3) := by decide +kernel
theorem dX9_most_82 : decode cX9_most 82 = .ok (.iload_n 3, 1) := by decide +kernel
theorem dX9_most_83 : decode cX9_most 83 = .ok (.laload, 1) := by decide +kernel
theorem dX9_most_84 : decode cX9_most 84 = .ok (.lcmp, 1) := by decide +kernel
theorem dX9_most_85 : decode cX9_most 85 = .ok (.ifCond .le 6, 3) := by decide +kernel
theorem dX9_most_88 : decode cX9_most 88 = .ok (.iload 4, 2) := by decide +kernel
theorem dX9_most_90 : decode cX9_most 90 = .ok (.istore_n 3, 1) := by decide +kernel
theorem dX9_most_91 : decode cX9_most 91 = .ok (.iinc 4 1, 3) := by decide +kernel
theorem dX9_most_94 : decode cX9_most 94 = .ok (.goto (-41), 3) := by decide +kernel
theorem dX9_most_97 : decode cX9_most 97 = .ok (.aload_n 0, 1) := by decide +kernel
theorem dX9_most_98 : decode cX9_most 98 = .ok (.getfield 39, 3) := by decide +kernel
theorem dX9_most_101 : decode cX9_most 101 = .ok (.aload_n 0, 1) := by decide +kernel
theorem dX9_most_102 : decode cX9_most 102 = .ok (.getfield 60, 3) := by decide +kernel
theorem dX9_most_105 : decode cX9_most 105 = .ok (.getfield 257, 3) := by decide +kernel
theorem dX9_most_108 : decode cX9_most 108 = .ok (.iload_n 3, 1) := by decide +kernel
theorem dX9_most_109 : decode cX9_most 109 = .ok (.laload, 1) := by decide +kernel
theorem dX9_most_110 : decode cX9_most 110 = .ok (.aload_n 0, 1) := by decide +kernel
theorem dX9_most_111 : decode cX9_most 111 = .ok (.getfield 60, 3) := by decide +kernel
theorem dX9_most_114 : decode cX9_most 114 = .ok (.invokevirtual 243, 3) := by decide +kernel
theorem dX9_most_117 : decode cX9_most 117 = .ok (.invokevirtual 246, 3) := by decide +kernel
theorem dX9_most_120 : decode cX9_most 120 = .ok (.pop, 1) := by decide +kernel
theorem dX9_most_121 : decode cX9_most 121 = .ok (.iload_n 3, 1) := by decide +kernel
theorem dX9_most_122 : decode cX9_most 122 = .ok (.ireturn, 1) := by decide +kernel
theorem dX9_keeps_0 : decode cX9_keeps 0 = .ok (.iload_n 1, 1) := by decide +kernel
theorem dX9_keeps_1 : decode cX9_keeps 1 = .ok (.invokestatic 83, 3) := by decide +kernel
theorem dX9_keeps_4 : decode cX9_keeps 4 = .ok (.ifCond .eq 19, 3) := by decide +kernel
theorem dX9_keeps_7 : decode cX9_keeps 7 = .ok (.iload_n 2, 1) := by decide +kernel
theorem dX9_keeps_8 : decode cX9_keeps 8 = .ok (.iconst 1, 1) := by decide +kernel
theorem dX9_keeps_9 : decode cX9_keeps 9 = .ok (.if_icmp .lt 14, 3) := by decide +kernel
theorem dX9_keeps_12 : decode cX9_keeps 12 = .ok (.iload_n 3, 1) := by decide +kernel
theorem dX9_keeps_13 : decode cX9_keeps 13 = .ok (.bipush 99, 2) := by decide +kernel
theorem dX9_keeps_15 : decode cX9_keeps 15 = .ok (.if_icmp .gt 8, 3) := by decide +kernel
theorem dX9_keeps_18 : decode cX9_keeps 18 = .ok (.iload_n 2, 1) := by decide +kernel
theorem dX9_keeps_19 : decode cX9_keeps 19 = .ok (.iload_n 3, 1) := by decide +kernel
theorem dX9_keeps_20 : decode cX9_keeps 20 = .ok (.if_icmp .le 5, 3) := by decide +kernel
theorem dX9_keeps_23 : decode cX9_keeps 23 = .ok (.iconst (-1), 1) := by decide +kernel
theorem dX9_keeps_24 : decode cX9_keeps 24 = .ok (.ireturn, 1) := by decide +kernel
theorem dX9_keeps_25 : decode cX9_keeps 25 = .ok (.aload_n 0, 1) := by decide +kernel
theorem dX9_keeps_26 : decode cX9_keeps 26 = .ok (.iload_n 1, 1) := by decide +kernel
theorem dX9_keeps_27 : decode cX9_keeps 27 = .ok (.invokevirtual 233, 3) := by decide +kernel
theorem dX9_keeps_30 : decode cX9_keeps 30 = .ok (.istore 4, 2) := by decide +kernel
theorem dX9_keeps_32 : decode cX9_keeps 32 = .ok (.iload 4, 2) := by decide +kernel
theorem dX9_keeps_34 : decode cX9_keeps 34 = .ok (.ifCond .eq 13, 3) := by decide +kernel
theorem dX9_keeps_37 : decode cX9_keeps 37 = .ok (.aload_n 0, 1) := by decide +kernel
theorem dX9_keeps_38 : decode cX9_keeps 38 = .ok (.getfield 39, 3) := by decide +kernel
theorem dX9_keeps_41 : decode cX9_keeps 41 = .ok (.iload 4, 2) := by decide +kernel
theorem dX9_keeps_43 : decode cX9_keeps 43 = .ok (.invokevirtual 87, 3) := by decide +kernel
theorem dX9_keeps_46 : decode cX9_keeps 46 = .ok (.ireturn, 1) := by decide +kernel
theorem dX9_keeps_47 : decode cX9_keeps 47 = .ok (.aload_n 0, 1) := by decide +kernel
theorem dX9_keeps_48 : decode cX9_keeps 48 = .ok (.iload_n 1, 1) := by decide +kernel
theorem dX9_keeps_49 : decode cX9_keeps 49 = .ok (.invokevirtual 236, 3) := by decide +kernel
theorem dX9_keeps_52 : decode cX9_keeps 52 = .ok (.iconst 0, 1) := by decide +kernel
theorem dX9_keeps_53 : decode cX9_keeps 53 = .ok (.istore 5, 2) := by decide +kernel
theorem dX9_keeps_55 : decode cX9_keeps 55 = .ok (.iconst 0, 1) := by decide +kernel
theorem dX9_keeps_56 : decode cX9_keeps 56 = .ok (.istore 6, 2) := by decide +kernel
theorem dX9_keeps_58 : decode cX9_keeps 58 = .ok (.aload_n 0, 1) := by decide +kernel
theorem dX9_keeps_59 : decode cX9_keeps 59 = .ok (.getfield 60, 3) := by decide +kernel
theorem dX9_keeps_62 : decode cX9_keeps 62 = .ok (.invokevirtual 243, 3) := by decide +kernel
theorem dX9_keeps_65 : decode cX9_keeps 65 = .ok (.lstore 7, 2) := by decide +kernel
theorem dX9_keeps_67 : decode cX9_keeps 67 = .ok (.iconst 0, 1) := by decide +kernel
theorem dX9_keeps_68 : decode cX9_keeps 68 = .ok (.istore 9, 2) := by decide +kernel
theorem dX9_keeps_70 : decode cX9_keeps 70 = .ok (.iload 9, 2) := by decide +kernel
theorem dX9_keeps_72 : decode cX9_keeps 72 = .ok (.aload_n 0, 1) := by decide +kernel
theorem dX9_keeps_73 : decode cX9_keeps 73 = .ok (.getfield 60, 3) := by decide +kernel
theorem dX9_keeps_76 : decode cX9_keeps 76 = .ok (.getfield 256, 3) := by decide +kernel
theorem dX9_keeps_79 : decode cX9_keeps 79 = .ok (.if_icmp .ge 67, 3) := by decide +kernel
theorem dX9_keeps_82 : decode cX9_keeps 82 = .ok (.aload_n 0, 1) := by decide +kernel
theorem dX9_keeps_83 : decode cX9_keeps 83 = .ok (.getfield 60, 3) := by decide +kernel
theorem dX9_keeps_86 : decode cX9_keeps 86 = .ok (.iconst 0, 1) := by decide +kernel
theorem dX9_keeps_87 : decode cX9_keeps 87 = .ok (.iload 9, 2) := by decide +kernel
theorem dX9_keeps_89 : decode cX9_keeps 89 = .ok (.iload 9, 2) := by decide +kernel
theorem dX9_keeps_91 : decode cX9_keeps 91 = .ok (.invokevirtual 239, 3) := by decide +kernel
theorem dX9_keeps_94 : decode cX9_keeps 94 = .ok (.lstore 10, 2) := by decide +kernel
theorem dX9_keeps_96 : decode cX9_keeps 96 = .ok (.lload 10, 2) := by decide +kernel
theorem dX9_keeps_98 : decode cX9_keeps 98 = .ok (.iload_n 3, 1) := by decide +kernel
theorem dX9_keeps_99 : decode cX9_keeps 99 = .ok (.i2l, 1) := by decide +kernel
theorem dX9_keeps_100 : decode cX9_keeps 100 = .ok (.lmul, 1) := by decide +kernel
theorem dX9_keeps_101 : decode cX9_keeps 101 = .ok (.iload_n 2, 1) := by decide +kernel
theorem dX9_keeps_102 : decode cX9_keeps 102 = .ok (.i2l, 1) := by decide +kernel
theorem dX9_keeps_103 : decode cX9_keeps 103 = .ok (.aload_n 0, 1) := by decide +kernel
theorem dX9_keeps_104 : decode cX9_keeps 104 = .ok (.getfield 60, 3) := by decide +kernel
theorem dX9_keeps_107 : decode cX9_keeps 107 = .ok (.invokevirtual 243, 3) := by decide +kernel
theorem dX9_keeps_110 : decode cX9_keeps 110 = .ok (.lmul, 1) := by decide +kernel
theorem dX9_keeps_111 : decode cX9_keeps 111 = .ok (.lcmp, 1) := by decide +kernel
theorem dX9_keeps_112 : decode cX9_keeps 112 = .ok (.ifCond .lt 12, 3) := by decide +kernel
theorem dX9_keeps_115 : decode cX9_keeps 115 = .ok (.iload 5, 2) := by decide +kernel
theorem dX9_keeps_117 : decode cX9_keeps 117 = .ok (.iconst 1, 1) := by decide +kernel
theorem dX9_keeps_118 : decode cX9_keeps 118 = .ok (.iload 9, 2) := by decide +kernel
theorem dX9_keeps_120 : decode cX9_keeps 120 = .ok (.ishl, 1) := by decide +kernel
theorem dX9_keeps_121 : decode cX9_keeps 121 = .ok (.ior, 1) := by decide +kernel
theorem dX9_keeps_122 : decode cX9_keeps 122 = .ok (.istore 5, 2) := by decide +kernel
theorem dX9_keeps_124 : decode cX9_keeps 124 = .ok (.lload 10, 2) := by decide +kernel
theorem dX9_keeps_126 : decode cX9_keeps 126 = .ok (.lload 7, 2) := by decide +kernel
theorem dX9_keeps_128 : decode cX9_keeps 128 = .ok (.lcmp, 1) := by decide +kernel
theorem dX9_keeps_129 : decode cX9_keeps 129 = .ok (.ifCond .ge 11, 3) := by decide +kernel
theorem dX9_keeps_132 : decode cX9_keeps 132 = .ok (.lload 10, 2) := by decide +kernel
theorem dX9_keeps_134 : decode cX9_keeps 134 = .ok (.lstore 7, 2) := by decide +kernel
theorem dX9_keeps_136 : decode cX9_keeps 136 = .ok (.iload 9, 2) := by decide +kernel
theorem dX9_keeps_138 : decode cX9_keeps 138 = .ok (.istore 6, 2) := by decide +kernel
theorem dX9_keeps_140 : decode cX9_keeps 140 = .ok (.iinc 9 1, 3) := by decide +kernel
theorem dX9_keeps_143 : decode cX9_keeps 143 = .ok (.goto (-73), 3) := by decide +kernel
theorem dX9_keeps_146 : decode cX9_keeps 146 = .ok (.aload_n 0, 1) := by decide +kernel
theorem dX9_keeps_147 : decode cX9_keeps 147 = .ok (.getfield 39, 3) := by decide +kernel
theorem dX9_keeps_150 : decode cX9_keeps 150 = .ok (.iload 6, 2) := by decide +kernel
theorem dX9_keeps_152 : decode cX9_keeps 152 = .ok (.invokevirtual 104, 3) := by decide +kernel
theorem dX9_keeps_155 : decode cX9_keeps 155 = .ok (.pop, 1) := by decide +kernel
theorem dX9_keeps_156 : decode cX9_keeps 156 = .ok (.iload 5, 2) := by decide +kernel
theorem dX9_keeps_158 : decode cX9_keeps 158 = .ok (.ireturn, 1) := by decide +kernel
theorem dX9_was_0 : decode cX9_was 0 = .ok (.iload_n 1, 1) := by decide +kernel
theorem dX9_was_1 : decode cX9_was 1 = .ok (.invokestatic 83, 3) := by decide +kernel
theorem dX9_was_4 : decode cX9_was 4 = .ok (.ifCond .eq 19, 3) := by decide +kernel
theorem dX9_was_7 : decode cX9_was 7 = .ok (.aload_n 0, 1) := by decide +kernel
theorem dX9_was_8 : decode cX9_was 8 = .ok (.iload_n 2, 1) := by decide +kernel
theorem dX9_was_9 : decode cX9_was 9 = .ok (.invokevirtual 165, 3) := by decide +kernel
theorem dX9_was_12 : decode cX9_was 12 = .ok (.ifCond .eq 11, 3) := by decide +kernel
theorem dX9_was_15 : decode cX9_was 15 = .ok (.aload_n 0, 1) := by decide +kernel
theorem dX9_was_16 : decode cX9_was 16 = .ok (.iload_n 3, 1) := by decide +kernel
theorem dX9_was_17 : decode cX9_was 17 = .ok (.invokevirtual 165, 3) := by decide +kernel
theorem dX9_was_20 : decode cX9_was 20 = .ok (.ifCond .ne 5, 3) := by decide +kernel
theorem dX9_was_23 : decode cX9_was 23 = .ok (.iconst (-1), 1) := by decide +kernel
theorem dX9_was_24 : decode cX9_was 24 = .ok (.ireturn, 1) := by decide +kernel
theorem dX9_was_25 : decode cX9_was 25 = .ok (.aload_n 0, 1) := by decide +kernel
theorem dX9_was_26 : decode cX9_was 26 = .ok (.iload_n 1, 1) := by decide +kernel
theorem dX9_was_27 : decode cX9_was 27 = .ok (.invokevirtual 233, 3) := by decide +kernel
theorem dX9_was_30 : decode cX9_was 30 = .ok (.istore 4, 2) := by decide +kernel
theorem dX9_was_32 : decode cX9_was 32 = .ok (.iload 4, 2) := by decide +kernel
theorem dX9_was_34 : decode cX9_was 34 = .ok (.ifCond .eq 13, 3) := by decide +kernel
theorem dX9_was_37 : decode cX9_was 37 = .ok (.aload_n 0, 1) := by decide +kernel
theorem dX9_was_38 : decode cX9_was 38 = .ok (.getfield 39, 3) := by decide +kernel
theorem dX9_was_41 : decode cX9_was 41 = .ok (.iload 4, 2) := by decide +kernel
theorem dX9_was_43 : decode cX9_was 43 = .ok (.invokevirtual 87, 3) := by decide +kernel
theorem dX9_was_46 : decode cX9_was 46 = .ok (.ireturn, 1) := by decide +kernel
theorem dX9_was_47 : decode cX9_was 47 = .ok (.aload_n 0, 1) := by decide +kernel
theorem dX9_was_48 : decode cX9_was 48 = .ok (.iload_n 1, 1) := by decide +kernel
theorem dX9_was_49 : decode cX9_was 49 = .ok (.invokevirtual 236, 3) := by decide +kernel
theorem dX9_was_52 : decode cX9_was 52 = .ok (.lconst 0, 1) := by decide +kernel
theorem dX9_was_53 : decode cX9_was 53 = .ok (.lstore 5, 2) := by decide +kernel
theorem dX9_was_55 : decode cX9_was 55 = .ok (.iconst 0, 1) := by decide +kernel
theorem dX9_was_56 : decode cX9_was 56 = .ok (.istore 7, 2) := by decide +kernel
theorem dX9_was_58 : decode cX9_was 58 = .ok (.iload 7, 2) := by decide +kernel
theorem dX9_was_60 : decode cX9_was 60 = .ok (.aload_n 0, 1) := by decide +kernel
theorem dX9_was_61 : decode cX9_was 61 = .ok (.getfield 60, 3) := by decide +kernel
theorem dX9_was_64 : decode cX9_was 64 = .ok (.getfield 256, 3) := by decide +kernel
theorem dX9_was_67 : decode cX9_was 67 = .ok (.if_icmp .ge 25, 3) := by decide +kernel
theorem dX9_was_70 : decode cX9_was 70 = .ok (.lload 5, 2) := by decide +kernel
theorem dX9_was_72 : decode cX9_was 72 = .ok (.aload_n 0, 1) := by decide +kernel
theorem dX9_was_73 : decode cX9_was 73 = .ok (.getfield 60, 3) := by decide +kernel
theorem dX9_was_76 : decode cX9_was 76 = .ok (.iconst 0, 1) := by decide +kernel
theorem dX9_was_77 : decode cX9_was 77 = .ok (.iload 7, 2) := by decide +kernel
theorem dX9_was_79 : decode cX9_was 79 = .ok (.iload_n 2, 1) := by decide +kernel
theorem dX9_was_80 : decode cX9_was 80 = .ok (.invokevirtual 239, 3) := by decide +kernel
theorem dX9_was_83 : decode cX9_was 83 = .ok (.ladd, 1) := by decide +kernel
theorem dX9_was_84 : decode cX9_was 84 = .ok (.lstore 5, 2) := by decide +kernel
theorem dX9_was_86 : decode cX9_was 86 = .ok (.iinc 7 1, 3) := by decide +kernel
theorem dX9_was_89 : decode cX9_was 89 = .ok (.goto (-31), 3) := by decide +kernel
theorem dX9_was_92 : decode cX9_was 92 = .ok (.lload 5, 2) := by decide +kernel
theorem dX9_was_94 : decode cX9_was 94 = .ok (.lconst 0, 1) := by decide +kernel
theorem dX9_was_95 : decode cX9_was 95 = .ok (.lcmp, 1) := by decide +kernel
theorem dX9_was_96 : decode cX9_was 96 = .ok (.ifCond .ne 12, 3) := by decide +kernel
theorem dX9_was_99 : decode cX9_was 99 = .ok (.aload_n 0, 1) := by decide +kernel
theorem dX9_was_100 : decode cX9_was 100 = .ok (.getfield 39, 3) := by decide +kernel
theorem dX9_was_103 : decode cX9_was 103 = .ok (.iconst 4, 1) := by decide +kernel
theorem dX9_was_104 : decode cX9_was 104 = .ok (.invokevirtual 87, 3) := by decide +kernel
theorem dX9_was_107 : decode cX9_was 107 = .ok (.ireturn, 1) := by decide +kernel
theorem dX9_was_108 : decode cX9_was 108 = .ok (.aload_n 0, 1) := by decide +kernel
theorem dX9_was_109 : decode cX9_was 109 = .ok (.getfield 39, 3) := by decide +kernel
theorem dX9_was_112 : decode cX9_was 112 = .ok (.aload_n 0, 1) := by decide +kernel
theorem dX9_was_113 : decode cX9_was 113 = .ok (.getfield 60, 3) := by decide +kernel
theorem dX9_was_116 : decode cX9_was 116 = .ok (.iconst 0, 1) := by decide +kernel
theorem dX9_was_117 : decode cX9_was 117 = .ok (.iload_n 3, 1) := by decide +kernel
theorem dX9_was_118 : decode cX9_was 118 = .ok (.iload_n 2, 1) := by decide +kernel
theorem dX9_was_119 : decode cX9_was 119 = .ok (.invokevirtual 239, 3) := by decide +kernel
theorem dX9_was_122 : decode cX9_was 122 = .ok (.lload 5, 2) := by decide +kernel
theorem dX9_was_124 : decode cX9_was 124 = .ok (.invokevirtual 246, 3) := by decide +kernel
theorem dX9_was_127 : decode cX9_was 127 = .ok (.ireturn, 1) := by decide +kernel
theorem dX9_off_0 : decode cX9_off 0 = .ok (.iload_n 1, 1) := by decide +kernel
theorem dX9_off_1 : decode cX9_off 1 = .ok (.invokestatic 83, 3) := by decide +kernel
theorem dX9_off_4 : decode cX9_off 4 = .ok (.ifCond .eq 35, 3) := by decide +kernel
theorem dX9_off_7 : decode cX9_off 7 = .ok (.aload_n 0, 1) := by decide +kernel
theorem dX9_off_8 : decode cX9_off 8 = .ok (.iload_n 2, 1) := by decide +kernel
theorem dX9_off_9 : decode cX9_off 9 = .ok (.invokevirtual 165, 3) := by decide +kernel
theorem dX9_off_12 : decode cX9_off 12 = .ok (.ifCond .eq 27, 3) := by decide +kernel
theorem dX9_off_15 : decode cX9_off 15 = .ok (.aload_n 0, 1) := by decide +kernel
theorem dX9_off_16 : decode cX9_off 16 = .ok (.iload_n 3, 1) := by decide +kernel
theorem dX9_off_17 : decode cX9_off 17 = .ok (.invokevirtual 165, 3) := by decide +kernel
theorem dX9_off_20 : decode cX9_off 20 = .ok (.ifCond .eq 19, 3) := by decide +kernel
theorem dX9_off_23 : decode cX9_off 23 = .ok (.iload_n 2, 1) := by decide +kernel
theorem dX9_off_24 : decode cX9_off 24 = .ok (.iload_n 3, 1) := by decide +kernel
theorem dX9_off_25 : decode cX9_off 25 = .ok (.if_icmp .eq 14, 3) := by decide +kernel
theorem dX9_off_28 : decode cX9_off 28 = .ok (.iload 4, 2) := by decide +kernel
theorem dX9_off_30 : decode cX9_off 30 = .ok (.ifCond .lt 9, 3) := by decide +kernel
theorem dX9_off_33 : decode cX9_off 33 = .ok (.iload 4, 2) := by decide +kernel
theorem dX9_off_35 : decode cX9_off 35 = .ok (.iconst 4, 1) := by decide +kernel
theorem dX9_off_36 : decode cX9_off 36 = .ok (.if_icmp .lt 5, 3) := by decide +kernel
theorem dX9_off_39 : decode cX9_off 39 = .ok (.iconst (-1), 1) := by decide +kernel
theorem dX9_off_40 : decode cX9_off 40 = .ok (.ireturn, 1) := by decide +kernel
theorem dX9_off_41 : decode cX9_off 41 = .ok (.aload_n 0, 1) := by decide +kernel
theorem dX9_off_42 : decode cX9_off 42 = .ok (.iload_n 1, 1) := by decide +kernel
theorem dX9_off_43 : decode cX9_off 43 = .ok (.invokevirtual 233, 3) := by decide +kernel
theorem dX9_off_46 : decode cX9_off 46 = .ok (.istore 5, 2) := by decide +kernel
theorem dX9_off_48 : decode cX9_off 48 = .ok (.iload 5, 2) := by decide +kernel
theorem dX9_off_50 : decode cX9_off 50 = .ok (.ifCond .eq 13, 3) := by decide +kernel
theorem dX9_off_53 : decode cX9_off 53 = .ok (.aload_n 0, 1) := by decide +kernel
theorem dX9_off_54 : decode cX9_off 54 = .ok (.getfield 39, 3) := by decide +kernel
theorem dX9_off_57 : decode cX9_off 57 = .ok (.iload 5, 2) := by decide +kernel
theorem dX9_off_59 : decode cX9_off 59 = .ok (.invokevirtual 87, 3) := by decide +kernel
theorem dX9_off_62 : decode cX9_off 62 = .ok (.ireturn, 1) := by decide +kernel
theorem dX9_off_63 : decode cX9_off 63 = .ok (.iload 4, 2) := by decide +kernel
theorem dX9_off_65 : decode cX9_off 65 = .ok (.aload_n 0, 1) := by decide +kernel
theorem dX9_off_66 : decode cX9_off 66 = .ok (.getfield 11, 3) := by decide +kernel
theorem dX9_off_69 : decode cX9_off 69 = .ok (.iload_n 1, 1) := by decide +kernel
theorem dX9_off_70 : decode cX9_off 70 = .ok (.aaload, 1) := by decide +kernel
theorem dX9_off_71 : decode cX9_off 71 = .ok (.getfield 128, 3) := by decide +kernel
theorem dX9_off_74 : decode cX9_off 74 = .ok (.iconst 2, 1) := by decide +kernel
theorem dX9_off_75 : decode cX9_off 75 = .ok (.idiv, 1) := by decide +kernel
theorem dX9_off_76 : decode cX9_off 76 = .ok (.if_icmp .lt 5, 3) := by decide +kernel
theorem dX9_off_79 : decode cX9_off 79 = .ok (.iconst (-1), 1) := by decide +kernel
theorem dX9_off_80 : decode cX9_off 80 = .ok (.ireturn, 1) := by decide +kernel
theorem dX9_off_81 : decode cX9_off 81 = .ok (.aload_n 0, 1) := by decide +kernel
theorem dX9_off_82 : decode cX9_off 82 = .ok (.iload_n 1, 1) := by decide +kernel
theorem dX9_off_83 : decode cX9_off 83 = .ok (.invokevirtual 236, 3) := by decide +kernel
theorem dX9_off_86 : decode cX9_off 86 = .ok (.aload_n 0, 1) := by decide +kernel
theorem dX9_off_87 : decode cX9_off 87 = .ok (.getfield 60, 3) := by decide +kernel
theorem dX9_off_90 : decode cX9_off 90 = .ok (.iconst 0, 1) := by decide +kernel
theorem dX9_off_91 : decode cX9_off 91 = .ok (.iload_n 2, 1) := by decide +kernel
theorem dX9_off_92 : decode cX9_off 92 = .ok (.iload_n 3, 1) := by decide +kernel
theorem dX9_off_93 : decode cX9_off 93 = .ok (.invokevirtual 239, 3) := by decide +kernel
theorem dX9_off_96 : decode cX9_off 96 = .ok (.lstore 6, 2) := by decide +kernel
theorem dX9_off_98 : decode cX9_off 98 = .ok (.lload 6, 2) := by decide +kernel
theorem dX9_off_100 : decode cX9_off 100 = .ok (.lconst 0, 1) := by decide +kernel
theorem dX9_off_101 : decode cX9_off 101 = .ok (.lcmp, 1) := by decide +kernel
theorem dX9_off_102 : decode cX9_off 102 = .ok (.ifCond .ne 12, 3) := by decide +kernel
theorem dX9_off_105 : decode cX9_off 105 = .ok (.aload_n 0, 1) := by decide +kernel
theorem dX9_off_106 : decode cX9_off 106 = .ok (.getfield 39, 3) := by decide +kernel
theorem dX9_off_109 : decode cX9_off 109 = .ok (.iconst 4, 1) := by decide +kernel
theorem dX9_off_110 : decode cX9_off 110 = .ok (.invokevirtual 87, 3) := by decide +kernel
theorem dX9_off_113 : decode cX9_off 113 = .ok (.ireturn, 1) := by decide +kernel
theorem dX9_off_114 : decode cX9_off 114 = .ok (.aload_n 0, 1) := by decide +kernel
theorem dX9_off_115 : decode cX9_off 115 = .ok (.getfield 39, 3) := by decide +kernel
theorem dX9_off_118 : decode cX9_off 118 = .ok (.aload_n 0, 1) := by decide +kernel
theorem dX9_off_119 : decode cX9_off 119 = .ok (.getfield 60, 3) := by decide +kernel
theorem dX9_off_122 : decode cX9_off 122 = .ok (.iload_n 2, 1) := by decide +kernel
theorem dX9_off_123 : decode cX9_off 123 = .ok (.iload_n 3, 1) := by decide +kernel
theorem dX9_off_124 : decode cX9_off 124 = .ok (.iload 4, 2) := by decide +kernel
theorem dX9_off_126 : decode cX9_off 126 = .ok (.invokevirtual 261, 3) := by decide +kernel
theorem dX9_off_129 : decode cX9_off 129 = .ok (.lload 6, 2) := by decide +kernel
theorem dX9_off_131 : decode cX9_off 131 = .ok (.invokevirtual 246, 3) := by decide +kernel
theorem dX9_off_134 : decode cX9_off 134 = .ok (.ireturn, 1) := by decide +kernel
theorem dX9_kept_0 : decode cX9_kept 0 = .ok (.iload_n 1, 1) := by decide +kernel
theorem dX9_kept_1 : decode cX9_kept 1 = .ok (.invokestatic 83, 3) := by decide +kernel
theorem dX9_kept_4 : decode cX9_kept 4 = .ok (.ifCond .eq 10, 3) := by decide +kernel
theorem dX9_kept_7 : decode cX9_kept 7 = .ok (.iload_n 2, 1) := by decide +kernel
theorem dX9_kept_8 : decode cX9_kept 8 = .ok (.invokestatic 83, 3) := by decide +kernel
theorem dX9_kept_11 : decode cX9_kept 11 = .ok (.ifCond .ne 5, 3) := by decide +kernel
theorem dX9_kept_14 : decode cX9_kept 14 = .ok (.iconst (-1), 1) := by decide +kernel
theorem dX9_kept_15 : decode cX9_kept 15 = .ok (.ireturn, 1) := by decide +kernel
theorem dX9_kept_16 : decode cX9_kept 16 = .ok (.aload_n 0, 1) := by decide +kernel
theorem dX9_kept_17 : decode cX9_kept 17 = .ok (.iload_n 1, 1) := by decide +kernel
theorem dX9_kept_18 : decode cX9_kept 18 = .ok (.iload_n 2, 1) := by decide +kernel
theorem dX9_kept_19 : decode cX9_kept 19 = .ok (.invokevirtual 264, 3) := by decide +kernel
theorem dX9_kept_22 : decode cX9_kept 22 = .ok (.istore_n 3, 1) := by decide +kernel
theorem dX9_kept_23 : decode cX9_kept 23 = .ok (.iload_n 3, 1) := by decide +kernel
theorem dX9_kept_24 : decode cX9_kept 24 = .ok (.ifCond .eq 12, 3) := by decide +kernel
theorem dX9_kept_27 : decode cX9_kept 27 = .ok (.aload_n 0, 1) := by decide +kernel
theorem dX9_kept_28 : decode cX9_kept 28 = .ok (.getfield 39, 3) := by decide +kernel
theorem dX9_kept_31 : decode cX9_kept 31 = .ok (.iload_n 3, 1) := by decide +kernel
theorem dX9_kept_32 : decode cX9_kept 32 = .ok (.invokevirtual 87, 3) := by decide +kernel
theorem dX9_kept_35 : decode cX9_kept 35 = .ok (.ireturn, 1) := by decide +kernel
theorem dX9_kept_36 : decode cX9_kept 36 = .ok (.aload_n 0, 1) := by decide +kernel
theorem dX9_kept_37 : decode cX9_kept 37 = .ok (.iload_n 1, 1) := by decide +kernel
theorem dX9_kept_38 : decode cX9_kept 38 = .ok (.invokevirtual 236, 3) := by decide +kernel
theorem dX9_kept_41 : decode cX9_kept 41 = .ok (.lconst 0, 1) := by decide +kernel
theorem dX9_kept_42 : decode cX9_kept 42 = .ok (.lstore 4, 2) := by decide +kernel
theorem dX9_kept_44 : decode cX9_kept 44 = .ok (.ldc2_w 267, 3) := by decide +kernel
theorem dX9_kept_47 : decode cX9_kept 47 = .ok (.lstore 6, 2) := by decide +kernel
theorem dX9_kept_49 : decode cX9_kept 49 = .ok (.iconst 0, 1) := by decide +kernel
theorem dX9_kept_50 : decode cX9_kept 50 = .ok (.istore 8, 2) := by decide +kernel
theorem dX9_kept_52 : decode cX9_kept 52 = .ok (.iconst 0, 1) := by decide +kernel
theorem dX9_kept_53 : decode cX9_kept 53 = .ok (.istore 9, 2) := by decide +kernel
theorem dX9_kept_55 : decode cX9_kept 55 = .ok (.iload 9, 2) := by decide +kernel
theorem dX9_kept_57 : decode cX9_kept 57 = .ok (.aload_n 0, 1) := by decide +kernel
theorem dX9_kept_58 : decode cX9_kept 58 = .ok (.getfield 60, 3) := by decide +kernel
theorem dX9_kept_61 : decode cX9_kept 61 = .ok (.getfield 269, 3) := by decide +kernel
theorem dX9_kept_64 : decode cX9_kept 64 = .ok (.if_icmp .ge 65, 3) := by decide +kernel
theorem dX9_kept_67 : decode cX9_kept 67 = .ok (.aload_n 0, 1) := by decide +kernel
theorem dX9_kept_68 : decode cX9_kept 68 = .ok (.getfield 60, 3) := by decide +kernel
theorem dX9_kept_71 : decode cX9_kept 71 = .ok (.iload 9, 2) := by decide +kernel
theorem dX9_kept_73 : decode cX9_kept 73 = .ok (.aload_n 0, 1) := by decide +kernel
theorem dX9_kept_74 : decode cX9_kept 74 = .ok (.getfield 11, 3) := by decide +kernel
theorem dX9_kept_77 : decode cX9_kept 77 = .ok (.iload_n 2, 1) := by decide +kernel
theorem dX9_kept_78 : decode cX9_kept 78 = .ok (.aaload, 1) := by decide +kernel
theorem dX9_kept_79 : decode cX9_kept 79 = .ok (.iload 9, 2) := by decide +kernel
theorem dX9_kept_81 : decode cX9_kept 81 = .ok (.invokevirtual 98, 3) := by decide +kernel
theorem dX9_kept_84 : decode cX9_kept 84 = .ok (.aload_n 0, 1) := by decide +kernel
theorem dX9_kept_85 : decode cX9_kept 85 = .ok (.getfield 11, 3) := by decide +kernel
theorem dX9_kept_88 : decode cX9_kept 88 = .ok (.iload_n 2, 1) := by decide +kernel
theorem dX9_kept_89 : decode cX9_kept 89 = .ok (.aaload, 1) := by decide +kernel
theorem dX9_kept_90 : decode cX9_kept 90 = .ok (.iload 9, 2) := by decide +kernel
theorem dX9_kept_92 : decode cX9_kept 92 = .ok (.invokevirtual 98, 3) := by decide +kernel
theorem dX9_kept_95 : decode cX9_kept 95 = .ok (.invokevirtual 239, 3) := by decide +kernel
theorem dX9_kept_98 : decode cX9_kept 98 = .ok (.lstore 10, 2) := by decide +kernel
theorem dX9_kept_100 : decode cX9_kept 100 = .ok (.lload 4, 2) := by decide +kernel
theorem dX9_kept_102 : decode cX9_kept 102 = .ok (.lload 10, 2) := by decide +kernel
theorem dX9_kept_104 : decode cX9_kept 104 = .ok (.ladd, 1) := by decide +kernel
theorem dX9_kept_105 : decode cX9_kept 105 = .ok (.lstore 4, 2) := by decide +kernel
theorem dX9_kept_107 : decode cX9_kept 107 = .ok (.lload 10, 2) := by decide +kernel
theorem dX9_kept_109 : decode cX9_kept 109 = .ok (.lload 6, 2) := by decide +kernel
theorem dX9_kept_111 : decode cX9_kept 111 = .ok (.lcmp, 1) := by decide +kernel
theorem dX9_kept_112 : decode cX9_kept 112 = .ok (.ifCond .le 11, 3) := by decide +kernel
theorem dX9_kept_115 : decode cX9_kept 115 = .ok (.lload 10, 2) := by decide +kernel
theorem dX9_kept_117 : decode cX9_kept 117 = .ok (.lstore 6, 2) := by decide +kernel
theorem dX9_kept_119 : decode cX9_kept 119 = .ok (.iload 9, 2) := by decide +kernel
theorem dX9_kept_121 : decode cX9_kept 121 = .ok (.istore 8, 2) := by decide +kernel
theorem dX9_kept_123 : decode cX9_kept 123 = .ok (.iinc 9 1, 3) := by decide +kernel
theorem dX9_kept_126 : decode cX9_kept 126 = .ok (.goto (-71), 3) := by decide +kernel
theorem dX9_kept_129 : decode cX9_kept 129 = .ok (.aload_n 0, 1) := by decide +kernel
theorem dX9_kept_130 : decode cX9_kept 130 = .ok (.getfield 39, 3) := by decide +kernel
theorem dX9_kept_133 : decode cX9_kept 133 = .ok (.lload 4, 2) := by decide +kernel
theorem dX9_kept_135 : decode cX9_kept 135 = .ok (.aload_n 0, 1) := by decide +kernel
theorem dX9_kept_136 : decode cX9_kept 136 = .ok (.getfield 60, 3) := by decide +kernel
theorem dX9_kept_139 : decode cX9_kept 139 = .ok (.invokevirtual 243, 3) := by decide +kernel
theorem dX9_kept_142 : decode cX9_kept 142 = .ok (.invokevirtual 246, 3) := by decide +kernel
theorem dX9_kept_145 : decode cX9_kept 145 = .ok (.pop, 1) := by decide +kernel
theorem dX9_kept_146 : decode cX9_kept 146 = .ok (.iload 8, 2) := by decide +kernel
theorem dX9_kept_148 : decode cX9_kept 148 = .ok (.ireturn, 1) := by decide +kernel
theorem dX9_seats_0 : decode cX9_seats 0 = .ok (.iload_n 1, 1) := by decide +kernel
theorem dX9_seats_1 : decode cX9_seats 1 = .ok (.invokestatic 83, 3) := by decide +kernel
theorem dX9_seats_4 : decode cX9_seats 4 = .ok (.ifCond .eq 17, 3) := by decide +kernel
theorem dX9_seats_7 : decode cX9_seats 7 = .ok (.iload_n 2, 1) := by decide +kernel
theorem dX9_seats_8 : decode cX9_seats 8 = .ok (.invokestatic 83, 3) := by decide +kernel
theorem dX9_seats_11 : decode cX9_seats 11 = .ok (.ifCond .eq 10, 3) := by decide +kernel
theorem dX9_seats_14 : decode cX9_seats 14 = .ok (.iload_n 3, 1) := by decide +kernel
theorem dX9_seats_15 : decode cX9_seats 15 = .ok (.invokestatic 83, 3) := by decide +kernel
theorem dX9_seats_18 : decode cX9_seats 18 = .ok (.ifCond .ne 5, 3) := by decide +kernel
theorem dX9_seats_21 : decode cX9_seats 21 = .ok (.iconst (-1), 1) := by decide +kernel
theorem dX9_seats_22 : decode cX9_seats 22 = .ok (.ireturn, 1) := by decide +kernel
theorem dX9_seats_23 : decode cX9_seats 23 = .ok (.aload_n 0, 1) := by decide +kernel
theorem dX9_seats_24 : decode cX9_seats 24 = .ok (.iload_n 1, 1) := by decide +kernel
theorem dX9_seats_25 : decode cX9_seats 25 = .ok (.iload_n 2, 1) := by decide +kernel
theorem dX9_seats_26 : decode cX9_seats 26 = .ok (.invokevirtual 264, 3) := by decide +kernel
theorem dX9_seats_29 : decode cX9_seats 29 = .ok (.istore 4, 2) := by decide +kernel
theorem dX9_seats_31 : decode cX9_seats 31 = .ok (.iload 4, 2) := by decide +kernel
theorem dX9_seats_33 : decode cX9_seats 33 = .ok (.ifCond .eq 13, 3) := by decide +kernel
theorem dX9_seats_36 : decode cX9_seats 36 = .ok (.aload_n 0, 1) := by decide +kernel
theorem dX9_seats_37 : decode cX9_seats 37 = .ok (.getfield 39, 3) := by decide +kernel
theorem dX9_seats_40 : decode cX9_seats 40 = .ok (.iload 4, 2) := by decide +kernel
theorem dX9_seats_42 : decode cX9_seats 42 = .ok (.invokevirtual 87, 3) := by decide +kernel
theorem dX9_seats_45 : decode cX9_seats 45 = .ok (.ireturn, 1) := by decide +kernel
theorem dX9_seats_46 : decode cX9_seats 46 = .ok (.aload_n 0, 1) := by decide +kernel
theorem dX9_seats_47 : decode cX9_seats 47 = .ok (.getfield 11, 3) := by decide +kernel
theorem dX9_seats_50 : decode cX9_seats 50 = .ok (.iload_n 1, 1) := by decide +kernel
theorem dX9_seats_51 : decode cX9_seats 51 = .ok (.aaload, 1) := by decide +kernel
theorem dX9_seats_52 : decode cX9_seats 52 = .ok (.getfield 128, 3) := by decide +kernel
theorem dX9_seats_55 : decode cX9_seats 55 = .ok (.bipush 6, 2) := by decide +kernel
theorem dX9_seats_57 : decode cX9_seats 57 = .ok (.if_icmp .le 6, 3) := by decide +kernel
theorem dX9_seats_60 : decode cX9_seats 60 = .ok (.bipush (-6), 2) := by decide +kernel
theorem dX9_seats_62 : decode cX9_seats 62 = .ok (.ireturn, 1) := by decide +kernel
theorem dX9_seats_63 : decode cX9_seats 63 = .ok (.aload_n 0, 1) := by decide +kernel
theorem dX9_seats_64 : decode cX9_seats 64 = .ok (.iload_n 1, 1) := by decide +kernel
theorem dX9_seats_65 : decode cX9_seats 65 = .ok (.invokevirtual 236, 3) := by decide +kernel
theorem dX9_seats_68 : decode cX9_seats 68 = .ok (.aload_n 0, 1) := by decide +kernel
theorem dX9_seats_69 : decode cX9_seats 69 = .ok (.invokevirtual 270, 3) := by decide +kernel
theorem dX9_seats_72 : decode cX9_seats 72 = .ok (.aload_n 0, 1) := by decide +kernel
theorem dX9_seats_73 : decode cX9_seats 73 = .ok (.getfield 60, 3) := by decide +kernel
theorem dX9_seats_76 : decode cX9_seats 76 = .ok (.aload_n 0, 1) := by decide +kernel
theorem dX9_seats_77 : decode cX9_seats 77 = .ok (.getfield 11, 3) := by decide +kernel
theorem dX9_seats_80 : decode cX9_seats 80 = .ok (.iload_n 2, 1) := by decide +kernel
theorem dX9_seats_81 : decode cX9_seats 81 = .ok (.aaload, 1) := by decide +kernel
theorem dX9_seats_82 : decode cX9_seats 82 = .ok (.invokevirtual 273, 3) := by decide +kernel
theorem dX9_seats_85 : decode cX9_seats 85 = .ok (.istore 5, 2) := by decide +kernel
theorem dX9_seats_87 : decode cX9_seats 87 = .ok (.aload_n 0, 1) := by decide +kernel
theorem dX9_seats_88 : decode cX9_seats 88 = .ok (.getfield 39, 3) := by decide +kernel
theorem dX9_seats_91 : decode cX9_seats 91 = .ok (.aload_n 0, 1) := by decide +kernel
theorem dX9_seats_92 : decode cX9_seats 92 = .ok (.getfield 60, 3) := by decide +kernel
theorem dX9_seats_95 : decode cX9_seats 95 = .ok (.getfield 277, 3) := by decide +kernel
theorem dX9_seats_98 : decode cX9_seats 98 = .ok (.aload_n 0, 1) := by decide +kernel
theorem dX9_seats_99 : decode cX9_seats 99 = .ok (.getfield 60, 3) := by decide +kernel
theorem dX9_seats_102 : decode cX9_seats 102 = .ok (.invokevirtual 243, 3) := by decide +kernel
theorem dX9_seats_105 : decode cX9_seats 105 = .ok (.invokevirtual 246, 3) := by decide +kernel
theorem dX9_seats_108 : decode cX9_seats 108 = .ok (.pop, 1) := by decide +kernel
theorem dX9_seats_109 : decode cX9_seats 109 = .ok (.aload_n 0, 1) := by decide +kernel
theorem dX9_seats_110 : decode cX9_seats 110 = .ok (.getfield 11, 3) := by decide +kernel
theorem dX9_seats_113 : decode cX9_seats 113 = .ok (.iload_n 3, 1) := by decide +kernel
theorem dX9_seats_114 : decode cX9_seats 114 = .ok (.aaload, 1) := by decide +kernel
theorem dX9_seats_115 : decode cX9_seats 115 = .ok (.aload_n 0, 1) := by decide +kernel
theorem dX9_seats_116 : decode cX9_seats 116 = .ok (.getfield 60, 3) := by decide +kernel
theorem dX9_seats_119 : decode cX9_seats 119 = .ok (.getfield 281, 3) := by decide +kernel
theorem dX9_seats_122 : decode cX9_seats 122 = .ok (.aload_n 0, 1) := by decide +kernel
theorem dX9_seats_123 : decode cX9_seats 123 = .ok (.getfield 60, 3) := by decide +kernel
theorem dX9_seats_126 : decode cX9_seats 126 = .ok (.getfield 269, 3) := by decide +kernel
theorem dX9_seats_129 : decode cX9_seats 129 = .ok (.invokevirtual 209, 3) := by decide +kernel
theorem dX9_seats_132 : decode cX9_seats 132 = .ok (.iload 5, 2) := by decide +kernel
theorem dX9_seats_134 : decode cX9_seats 134 = .ok (.ireturn, 1) := by decide +kernel
theorem dX9_parts_0 : decode cX9_parts 0 = .ok (.aload_n 0, 1) := by decide +kernel
theorem dX9_parts_1 : decode cX9_parts 1 = .ok (.iload_n 1, 1) := by decide +kernel
theorem dX9_parts_2 : decode cX9_parts 2 = .ok (.invokevirtual 176, 3) := by decide +kernel
theorem dX9_parts_5 : decode cX9_parts 5 = .ok (.ifCond .eq 22, 3) := by decide +kernel
theorem dX9_parts_8 : decode cX9_parts 8 = .ok (.aload_n 0, 1) := by decide +kernel
theorem dX9_parts_9 : decode cX9_parts 9 = .ok (.iload_n 2, 1) := by decide +kernel
theorem dX9_parts_10 : decode cX9_parts 10 = .ok (.invokevirtual 165, 3) := by decide +kernel
theorem dX9_parts_13 : decode cX9_parts 13 = .ok (.ifCond .eq 14, 3) := by decide +kernel
theorem dX9_parts_16 : decode cX9_parts 16 = .ok (.iload_n 3, 1) := by decide +kernel
theorem dX9_parts_17 : decode cX9_parts 17 = .ok (.iconst 1, 1) := by decide +kernel
theorem dX9_parts_18 : decode cX9_parts 18 = .ok (.if_icmp .lt 9, 3) := by decide +kernel
theorem dX9_parts_21 : decode cX9_parts 21 = .ok (.iload_n 3, 1) := by decide +kernel
theorem dX9_parts_22 : decode cX9_parts 22 = .ok (.bipush 6, 2) := by decide +kernel
theorem dX9_parts_24 : decode cX9_parts 24 = .ok (.if_icmp .le 5, 3) := by decide +kernel
theorem dX9_parts_27 : decode cX9_parts 27 = .ok (.iconst (-1), 1) := by decide +kernel
theorem dX9_parts_28 : decode cX9_parts 28 = .ok (.ireturn, 1) := by decide +kernel
theorem dX9_parts_29 : decode cX9_parts 29 = .ok (.iconst 0, 1) := by decide +kernel
theorem dX9_parts_30 : decode cX9_parts 30 = .ok (.istore 4, 2) := by decide +kernel
theorem dX9_parts_32 : decode cX9_parts 32 = .ok (.iconst (-1), 1) := by decide +kernel
theorem dX9_parts_33 : decode cX9_parts 33 = .ok (.istore 5, 2) := by decide +kernel
theorem dX9_parts_35 : decode cX9_parts 35 = .ok (.iconst 1, 1) := by decide +kernel
theorem dX9_parts_36 : decode cX9_parts 36 = .ok (.istore 6, 2) := by decide +kernel
theorem dX9_parts_38 : decode cX9_parts 38 = .ok (.iload 6, 2) := by decide +kernel
theorem dX9_parts_40 : decode cX9_parts 40 = .ok (.sipush 1024, 3) := by decide +kernel
theorem dX9_parts_43 : decode cX9_parts 43 = .ok (.if_icmp .ge 51, 3) := by decide +kernel
theorem dX9_parts_46 : decode cX9_parts 46 = .ok (.iload 6, 2) := by decide +kernel
theorem dX9_parts_48 : decode cX9_parts 48 = .ok (.invokestatic 284, 3) := by decide +kernel
theorem dX9_parts_51 : decode cX9_parts 51 = .ok (.iload_n 3, 1) := by decide +kernel
theorem dX9_parts_52 : decode cX9_parts 52 = .ok (.if_icmp .eq 6, 3) := by decide +kernel
theorem dX9_parts_55 : decode cX9_parts 55 = .ok (.goto 33, 3) := by decide +kernel
theorem dX9_parts_58 : decode cX9_parts 58 = .ok (.aload_n 0, 1) := by decide +kernel
theorem dX9_parts_59 : decode cX9_parts 59 = .ok (.aload_n 0, 1) := by decide +kernel
theorem dX9_parts_60 : decode cX9_parts 60 = .ok (.getfield 26, 3) := by decide +kernel
theorem dX9_parts_63 : decode cX9_parts 63 = .ok (.iload_n 1, 1) := by decide +kernel
theorem dX9_parts_64 : decode cX9_parts 64 = .ok (.aaload, 1) := by decide +kernel
theorem dX9_parts_65 : decode cX9_parts 65 = .ok (.iload 6, 2) := by decide +kernel
theorem dX9_parts_67 : decode cX9_parts 67 = .ok (.iload_n 2, 1) := by decide +kernel
theorem dX9_parts_68 : decode cX9_parts 68 = .ok (.invokevirtual 289, 3) := by decide +kernel
theorem dX9_parts_71 : decode cX9_parts 71 = .ok (.istore 7, 2) := by decide +kernel
theorem dX9_parts_73 : decode cX9_parts 73 = .ok (.iload 7, 2) := by decide +kernel
theorem dX9_parts_75 : decode cX9_parts 75 = .ok (.iload 5, 2) := by decide +kernel
theorem dX9_parts_77 : decode cX9_parts 77 = .ok (.if_icmp .le 11, 3) := by decide +kernel
theorem dX9_parts_80 : decode cX9_parts 80 = .ok (.iload 7, 2) := by decide +kernel
theorem dX9_parts_82 : decode cX9_parts 82 = .ok (.istore 5, 2) := by decide +kernel
theorem dX9_parts_84 : decode cX9_parts 84 = .ok (.iload 6, 2) := by decide +kernel
theorem dX9_parts_86 : decode cX9_parts 86 = .ok (.istore 4, 2) := by decide +kernel
theorem dX9_parts_88 : decode cX9_parts 88 = .ok (.iinc 6 1, 3) := by decide +kernel
theorem dX9_parts_91 : decode cX9_parts 91 = .ok (.goto (-53), 3) := by decide +kernel
theorem dX9_parts_94 : decode cX9_parts 94 = .ok (.aload_n 0, 1) := by decide +kernel
theorem dX9_parts_95 : decode cX9_parts 95 = .ok (.getfield 39, 3) := by decide +kernel
theorem dX9_parts_98 : decode cX9_parts 98 = .ok (.iload 5, 2) := by decide +kernel
theorem dX9_parts_100 : decode cX9_parts 100 = .ok (.invokevirtual 104, 3) := by decide +kernel
theorem dX9_parts_103 : decode cX9_parts 103 = .ok (.pop, 1) := by decide +kernel
theorem dX9_parts_104 : decode cX9_parts 104 = .ok (.iload 4, 2) := by decide +kernel
theorem dX9_parts_106 : decode cX9_parts 106 = .ok (.ireturn, 1) := by decide +kernel
theorem dX9_few_0 : decode cX9_few 0 = .ok (.aload_n 0, 1) := by decide +kernel
theorem dX9_few_1 : decode cX9_few 1 = .ok (.iload_n 1, 1) := by decide +kernel
theorem dX9_few_2 : decode cX9_few 2 = .ok (.invokevirtual 176, 3) := by decide +kernel
theorem dX9_few_5 : decode cX9_few 5 = .ok (.ifCond .eq 22, 3) := by decide +kernel
theorem dX9_few_8 : decode cX9_few 8 = .ok (.aload_n 0, 1) := by decide +kernel
theorem dX9_few_9 : decode cX9_few 9 = .ok (.iload_n 2, 1) := by decide +kernel
theorem dX9_few_10 : decode cX9_few 10 = .ok (.invokevirtual 165, 3) := by decide +kernel
theorem dX9_few_13 : decode cX9_few 13 = .ok (.ifCond .eq 14, 3) := by decide +kernel
theorem dX9_few_16 : decode cX9_few 16 = .ok (.iload_n 3, 1) := by decide +kernel
theorem dX9_few_17 : decode cX9_few 17 = .ok (.iconst 1, 1) := by decide +kernel
theorem dX9_few_18 : decode cX9_few 18 = .ok (.if_icmp .lt 9, 3) := by decide +kernel
theorem dX9_few_21 : decode cX9_few 21 = .ok (.iload_n 3, 1) := by decide +kernel
theorem dX9_few_22 : decode cX9_few 22 = .ok (.bipush 24, 2) := by decide +kernel
theorem dX9_few_24 : decode cX9_few 24 = .ok (.if_icmp .le 5, 3) := by decide +kernel
theorem dX9_few_27 : decode cX9_few 27 = .ok (.iconst (-1), 1) := by decide +kernel
theorem dX9_few_28 : decode cX9_few 28 = .ok (.ireturn, 1) := by decide +kernel
theorem dX9_few_29 : decode cX9_few 29 = .ok (.iconst 1, 1) := by decide +kernel
theorem dX9_few_30 : decode cX9_few 30 = .ok (.istore 4, 2) := by decide +kernel
theorem dX9_few_32 : decode cX9_few 32 = .ok (.iload 4, 2) := by decide +kernel
theorem dX9_few_34 : decode cX9_few 34 = .ok (.bipush 6, 2) := by decide +kernel
theorem dX9_few_36 : decode cX9_few 36 = .ok (.if_icmp .gt 66, 3) := by decide +kernel
theorem dX9_few_39 : decode cX9_few 39 = .ok (.iconst 1, 1) := by decide +kernel
theorem dX9_few_40 : decode cX9_few 40 = .ok (.istore 5, 2) := by decide +kernel
theorem dX9_few_42 : decode cX9_few 42 = .ok (.iload 5, 2) := by decide +kernel
theorem dX9_few_44 : decode cX9_few 44 = .ok (.sipush 1024, 3) := by decide +kernel
theorem dX9_few_47 : decode cX9_few 47 = .ok (.if_icmp .ge 49, 3) := by decide +kernel
theorem dX9_few_50 : decode cX9_few 50 = .ok (.iload 5, 2) := by decide +kernel
theorem dX9_few_52 : decode cX9_few 52 = .ok (.invokestatic 284, 3) := by decide +kernel
theorem dX9_few_55 : decode cX9_few 55 = .ok (.iload 4, 2) := by decide +kernel
theorem dX9_few_57 : decode cX9_few 57 = .ok (.if_icmp .ne 33, 3) := by decide +kernel
theorem dX9_few_60 : decode cX9_few 60 = .ok (.aload_n 0, 1) := by decide +kernel
theorem dX9_few_61 : decode cX9_few 61 = .ok (.aload_n 0, 1) := by decide +kernel
theorem dX9_few_62 : decode cX9_few 62 = .ok (.getfield 26, 3) := by decide +kernel
theorem dX9_few_65 : decode cX9_few 65 = .ok (.iload_n 1, 1) := by decide +kernel
theorem dX9_few_66 : decode cX9_few 66 = .ok (.aaload, 1) := by decide +kernel
theorem dX9_few_67 : decode cX9_few 67 = .ok (.iload 5, 2) := by decide +kernel
theorem dX9_few_69 : decode cX9_few 69 = .ok (.iload_n 2, 1) := by decide +kernel
theorem dX9_few_70 : decode cX9_few 70 = .ok (.invokevirtual 289, 3) := by decide +kernel
theorem dX9_few_73 : decode cX9_few 73 = .ok (.iload_n 3, 1) := by decide +kernel
theorem dX9_few_74 : decode cX9_few 74 = .ok (.if_icmp .lt 16, 3) := by decide +kernel
theorem dX9_few_77 : decode cX9_few 77 = .ok (.aload_n 0, 1) := by decide +kernel
theorem dX9_few_78 : decode cX9_few 78 = .ok (.getfield 39, 3) := by decide +kernel
theorem dX9_few_81 : decode cX9_few 81 = .ok (.iload 5, 2) := by decide +kernel
theorem dX9_few_83 : decode cX9_few 83 = .ok (.invokevirtual 104, 3) := by decide +kernel
theorem dX9_few_86 : decode cX9_few 86 = .ok (.pop, 1) := by decide +kernel
theorem dX9_few_87 : decode cX9_few 87 = .ok (.iload 4, 2) := by decide +kernel
theorem dX9_few_89 : decode cX9_few 89 = .ok (.ireturn, 1) := by decide +kernel
theorem dX9_few_90 : decode cX9_few 90 = .ok (.iinc 5 1, 3) := by decide +kernel
theorem dX9_few_93 : decode cX9_few 93 = .ok (.goto (-51), 3) := by decide +kernel
theorem dX9_few_96 : decode cX9_few 96 = .ok (.iinc 4 1, 3) := by decide +kernel
theorem dX9_few_99 : decode cX9_few 99 = .ok (.goto (-67), 3) := by decide +kernel
theorem dX9_few_102 : decode cX9_few 102 = .ok (.bipush (-9), 2) := by decide +kernel
theorem dX9_few_104 : decode cX9_few 104 = .ok (.ireturn, 1) := by decide +kernel
theorem dX9_soon_0 : decode cX9_soon 0 = .ok (.aload_n 0, 1) := by decide +kernel
theorem dX9_soon_1 : decode cX9_soon 1 = .ok (.iload_n 1, 1) := by decide +kernel
theorem dX9_soon_2 : decode cX9_soon 2 = .ok (.invokevirtual 176, 3) := by decide +kernel
theorem dX9_soon_5 : decode cX9_soon 5 = .ok (.ifCond .eq 26, 3) := by decide +kernel
theorem dX9_soon_8 : decode cX9_soon 8 = .ok (.aload_n 0, 1) := by decide +kernel
theorem dX9_soon_9 : decode cX9_soon 9 = .ok (.iload_n 2, 1) := by decide +kernel
theorem dX9_soon_10 : decode cX9_soon 10 = .ok (.invokevirtual 165, 3) := by decide +kernel
theorem dX9_soon_13 : decode cX9_soon 13 = .ok (.ifCond .eq 18, 3) := by decide +kernel
theorem dX9_soon_16 : decode cX9_soon 16 = .ok (.iload_n 3, 1) := by decide +kernel
theorem dX9_soon_17 : decode cX9_soon 17 = .ok (.invokestatic 83, 3) := by decide +kernel
theorem dX9_soon_20 : decode cX9_soon 20 = .ok (.ifCond .eq 11, 3) := by decide +kernel
theorem dX9_soon_23 : decode cX9_soon 23 = .ok (.iload 4, 2) := by decide +kernel
theorem dX9_soon_25 : decode cX9_soon 25 = .ok (.invokestatic 83, 3) := by decide +kernel
theorem dX9_soon_28 : decode cX9_soon 28 = .ok (.ifCond .ne 5, 3) := by decide +kernel
theorem dX9_soon_31 : decode cX9_soon 31 = .ok (.iconst (-1), 1) := by decide +kernel
theorem dX9_soon_32 : decode cX9_soon 32 = .ok (.ireturn, 1) := by decide +kernel
theorem dX9_soon_33 : decode cX9_soon 33 = .ok (.aload_n 0, 1) := by decide +kernel
theorem dX9_soon_34 : decode cX9_soon 34 = .ok (.getfield 11, 3) := by decide +kernel
theorem dX9_soon_37 : decode cX9_soon 37 = .ok (.iload_n 3, 1) := by decide +kernel
theorem dX9_soon_38 : decode cX9_soon 38 = .ok (.aaload, 1) := by decide +kernel
theorem dX9_soon_39 : decode cX9_soon 39 = .ok (.invokevirtual 216, 3) := by decide +kernel
theorem dX9_soon_42 : decode cX9_soon 42 = .ok (.istore 5, 2) := by decide +kernel
theorem dX9_soon_44 : decode cX9_soon 44 = .ok (.iload 5, 2) := by decide +kernel
theorem dX9_soon_46 : decode cX9_soon 46 = .ok (.ifCond .eq 13, 3) := by decide +kernel
theorem dX9_soon_49 : decode cX9_soon 49 = .ok (.aload_n 0, 1) := by decide +kernel
theorem dX9_soon_50 : decode cX9_soon 50 = .ok (.getfield 39, 3) := by decide +kernel
theorem dX9_soon_53 : decode cX9_soon 53 = .ok (.iload 5, 2) := by decide +kernel
theorem dX9_soon_55 : decode cX9_soon 55 = .ok (.invokevirtual 87, 3) := by decide +kernel
theorem dX9_soon_58 : decode cX9_soon 58 = .ok (.ireturn, 1) := by decide +kernel
theorem dX9_soon_59 : decode cX9_soon 59 = .ok (.aload_n 0, 1) := by decide +kernel
theorem dX9_soon_60 : decode cX9_soon 60 = .ok (.getfield 67, 3) := by decide +kernel
theorem dX9_soon_63 : decode cX9_soon 63 = .ok (.aload_n 0, 1) := by decide +kernel
theorem dX9_soon_64 : decode cX9_soon 64 = .ok (.getfield 11, 3) := by decide +kernel
theorem dX9_soon_67 : decode cX9_soon 67 = .ok (.iload_n 3, 1) := by decide +kernel
theorem dX9_soon_68 : decode cX9_soon 68 = .ok (.aaload, 1) := by decide +kernel
theorem dX9_soon_69 : decode cX9_soon 69 = .ok (.invokevirtual 293, 3) := by decide +kernel
theorem dX9_soon_72 : decode cX9_soon 72 = .ok (.aload_n 0, 1) := by decide +kernel
theorem dX9_soon_73 : decode cX9_soon 73 = .ok (.getfield 26, 3) := by decide +kernel
theorem dX9_soon_76 : decode cX9_soon 76 = .ok (.iload_n 1, 1) := by decide +kernel
theorem dX9_soon_77 : decode cX9_soon 77 = .ok (.aaload, 1) := by decide +kernel
theorem dX9_soon_78 : decode cX9_soon 78 = .ok (.getfield 296, 3) := by decide +kernel
theorem dX9_soon_81 : decode cX9_soon 81 = .ok (.iconst 3, 1) := by decide +kernel
theorem dX9_soon_82 : decode cX9_soon 82 = .ok (.if_icmp .ne 7, 3) := by decide +kernel
theorem dX9_soon_85 : decode cX9_soon 85 = .ok (.iconst 1, 1) := by decide +kernel
theorem dX9_soon_86 : decode cX9_soon 86 = .ok (.goto 4, 3) := by decide +kernel
theorem dX9_soon_89 : decode cX9_soon 89 = .ok (.iconst 0, 1) := by decide +kernel
theorem dX9_soon_90 : decode cX9_soon 90 = .ok (.invokevirtual 299, 3) := by decide +kernel
theorem dX9_soon_93 : decode cX9_soon 93 = .ok (.iconst 1, 1) := by decide +kernel
theorem dX9_soon_94 : decode cX9_soon 94 = .ok (.istore 6, 2) := by decide +kernel
theorem dX9_soon_96 : decode cX9_soon 96 = .ok (.iload 6, 2) := by decide +kernel
theorem dX9_soon_98 : decode cX9_soon 98 = .ok (.iconst 1, 1) := by decide +kernel
theorem dX9_soon_99 : decode cX9_soon 99 = .ok (.aload_n 0, 1) := by decide +kernel
theorem dX9_soon_100 : decode cX9_soon 100 = .ok (.getfield 67, 3) := by decide +kernel
theorem dX9_soon_103 : decode cX9_soon 103 = .ok (.getfield 303, 3) := by decide +kernel
theorem dX9_soon_106 : decode cX9_soon 106 = .ok (.ishl, 1) := by decide +kernel
theorem dX9_soon_107 : decode cX9_soon 107 = .ok (.if_icmp .ge 65, 3) := by decide +kernel
theorem dX9_soon_110 : decode cX9_soon 110 = .ok (.aload_n 0, 1) := by decide +kernel
theorem dX9_soon_111 : decode cX9_soon 111 = .ok (.getfield 67, 3) := by decide +kernel
theorem dX9_soon_114 : decode cX9_soon 114 = .ok (.iload 6, 2) := by decide +kernel
theorem dX9_soon_116 : decode cX9_soon 116 = .ok (.aload_n 0, 1) := by decide +kernel
theorem dX9_soon_117 : decode cX9_soon 117 = .ok (.getfield 46, 3) := by decide +kernel
theorem dX9_soon_120 : decode cX9_soon 120 = .ok (.invokevirtual 304, 3) := by decide +kernel
theorem dX9_soon_123 : decode cX9_soon 123 = .ok (.aload_n 0, 1) := by decide +kernel
theorem dX9_soon_124 : decode cX9_soon 124 = .ok (.getfield 53, 3) := by decide +kernel
theorem dX9_soon_127 : decode cX9_soon 127 = .ok (.aload_n 0, 1) := by decide +kernel
theorem dX9_soon_128 : decode cX9_soon 128 = .ok (.getfield 26, 3) := by decide +kernel
theorem dX9_soon_131 : decode cX9_soon 131 = .ok (.iload_n 1, 1) := by decide +kernel
theorem dX9_soon_132 : decode cX9_soon 132 = .ok (.aaload, 1) := by decide +kernel
theorem dX9_soon_133 : decode cX9_soon 133 = .ok (.aload_n 0, 1) := by decide +kernel
theorem dX9_soon_134 : decode cX9_soon 134 = .ok (.getfield 46, 3) := by decide +kernel
theorem dX9_soon_137 : decode cX9_soon 137 = .ok (.aconst_null, 1) := by decide +kernel
theorem dX9_soon_138 : decode cX9_soon 138 = .ok (.invokevirtual 225, 3) := by decide +kernel
theorem dX9_soon_141 : decode cX9_soon 141 = .ok (.aload_n 0, 1) := by decide +kernel
theorem dX9_soon_142 : decode cX9_soon 142 = .ok (.getfield 67, 3) := by decide +kernel
theorem dX9_soon_145 : decode cX9_soon 145 = .ok (.iload 6, 2) := by decide +kernel
theorem dX9_soon_147 : decode cX9_soon 147 = .ok (.aload_n 0, 1) := by decide +kernel
theorem dX9_soon_148 : decode cX9_soon 148 = .ok (.getfield 53, 3) := by decide +kernel
theorem dX9_soon_151 : decode cX9_soon 151 = .ok (.getfield 201, 3) := by decide +kernel
theorem dX9_soon_154 : decode cX9_soon 154 = .ok (.iload_n 2, 1) := by decide +kernel
theorem dX9_soon_155 : decode cX9_soon 155 = .ok (.if_icmp .ne 7, 3) := by decide +kernel
theorem dX9_soon_158 : decode cX9_soon 158 = .ok (.iconst 1, 1) := by decide +kernel
theorem dX9_soon_159 : decode cX9_soon 159 = .ok (.goto 4, 3) := by decide +kernel
theorem dX9_soon_162 : decode cX9_soon 162 = .ok (.iconst 0, 1) := by decide +kernel
theorem dX9_soon_163 : decode cX9_soon 163 = .ok (.invokevirtual 308, 3) := by decide +kernel
theorem dX9_soon_166 : decode cX9_soon 166 = .ok (.iinc 6 1, 3) := by decide +kernel
theorem dX9_soon_169 : decode cX9_soon 169 = .ok (.goto (-73), 3) := by decide +kernel
theorem dX9_soon_172 : decode cX9_soon 172 = .ok (.aload_n 0, 1) := by decide +kernel
theorem dX9_soon_173 : decode cX9_soon 173 = .ok (.getfield 67, 3) := by decide +kernel
theorem dX9_soon_176 : decode cX9_soon 176 = .ok (.invokevirtual 311, 3) := by decide +kernel
theorem dX9_soon_179 : decode cX9_soon 179 = .ok (.istore 6, 2) := by decide +kernel
theorem dX9_soon_181 : decode cX9_soon 181 = .ok (.iload 6, 2) := by decide +kernel
theorem dX9_soon_183 : decode cX9_soon 183 = .ok (.bipush (-9), 2) := by decide +kernel
theorem dX9_soon_185 : decode cX9_soon 185 = .ok (.if_icmp .ne 6, 3) := by decide +kernel
theorem dX9_soon_188 : decode cX9_soon 188 = .ok (.bipush (-9), 2) := by decide +kernel
theorem dX9_soon_190 : decode cX9_soon 190 = .ok (.ireturn, 1) := by decide +kernel
theorem dX9_soon_191 : decode cX9_soon 191 = .ok (.aload_n 0, 1) := by decide +kernel
theorem dX9_soon_192 : decode cX9_soon 192 = .ok (.getfield 11, 3) := by decide +kernel
theorem dX9_soon_195 : decode cX9_soon 195 = .ok (.iload 4, 2) := by decide +kernel
theorem dX9_soon_197 : decode cX9_soon 197 = .ok (.aaload, 1) := by decide +kernel
theorem dX9_soon_198 : decode cX9_soon 198 = .ok (.aload_n 0, 1) := by decide +kernel
theorem dX9_soon_199 : decode cX9_soon 199 = .ok (.getfield 67, 3) := by decide +kernel
theorem dX9_soon_202 : decode cX9_soon 202 = .ok (.getfield 314, 3) := by decide +kernel
theorem dX9_soon_205 : decode cX9_soon 205 = .ok (.aload_n 0, 1) := by decide +kernel
theorem dX9_soon_206 : decode cX9_soon 206 = .ok (.getfield 67, 3) := by decide +kernel
theorem dX9_soon_209 : decode cX9_soon 209 = .ok (.getfield 303, 3) := by decide +kernel
theorem dX9_soon_212 : decode cX9_soon 212 = .ok (.invokevirtual 209, 3) := by decide +kernel
theorem dX9_soon_215 : decode cX9_soon 215 = .ok (.iload 6, 2) := by decide +kernel
theorem dX9_soon_217 : decode cX9_soon 217 = .ok (.ireturn, 1) := by decide +kernel
theorem dX9_common_0 : decode cX9_common 0 = .ok (.iload_n 1, 1) := by decide +kernel
theorem dX9_common_1 : decode cX9_common 1 = .ok (.invokestatic 159, 3) := by decide +kernel
theorem dX9_common_4 : decode cX9_common 4 = .ok (.ifCond .eq 14, 3) := by decide +kernel
theorem dX9_common_7 : decode cX9_common 7 = .ok (.iload_n 2, 1) := by decide +kernel
theorem dX9_common_8 : decode cX9_common 8 = .ok (.iconst 1, 1) := by decide +kernel
theorem dX9_common_9 : decode cX9_common 9 = .ok (.if_icmp .lt 9, 3) := by decide +kernel
theorem dX9_common_12 : decode cX9_common 12 = .ok (.iload_n 2, 1) := by decide +kernel
theorem dX9_common_13 : decode cX9_common 13 = .ok (.bipush 9, 2) := by decide +kernel
theorem dX9_common_15 : decode cX9_common 15 = .ok (.if_icmp .le 5, 3) := by decide +kernel
theorem dX9_common_18 : decode cX9_common 18 = .ok (.iconst (-1), 1) := by decide +kernel
theorem dX9_common_19 : decode cX9_common 19 = .ok (.ireturn, 1) := by decide +kernel
theorem dX9_common_20 : decode cX9_common 20 = .ok (.aload_n 0, 1) := by decide +kernel
theorem dX9_common_21 : decode cX9_common 21 = .ok (.iconst 0, 1) := by decide +kernel
theorem dX9_common_22 : decode cX9_common 22 = .ok (.invokevirtual 162, 3) := by decide +kernel
theorem dX9_common_25 : decode cX9_common 25 = .ok (.ifCond .eq 11, 3) := by decide +kernel
theorem dX9_common_28 : decode cX9_common 28 = .ok (.aload_n 0, 1) := by decide +kernel
theorem dX9_common_29 : decode cX9_common 29 = .ok (.iconst 1, 1) := by decide +kernel
theorem dX9_common_30 : decode cX9_common 30 = .ok (.invokevirtual 162, 3) := by decide +kernel
theorem dX9_common_33 : decode cX9_common 33 = .ok (.ifCond .ne 12, 3) := by decide +kernel
theorem dX9_common_36 : decode cX9_common 36 = .ok (.aload_n 0, 1) := by decide +kernel
theorem dX9_common_37 : decode cX9_common 37 = .ok (.getfield 39, 3) := by decide +kernel
theorem dX9_common_40 : decode cX9_common 40 = .ok (.iconst 1, 1) := by decide +kernel
theorem dX9_common_41 : decode cX9_common 41 = .ok (.invokevirtual 87, 3) := by decide +kernel
theorem dX9_common_44 : decode cX9_common 44 = .ok (.ireturn, 1) := by decide +kernel
theorem dX9_common_45 : decode cX9_common 45 = .ok (.aload_n 0, 1) := by decide +kernel
theorem dX9_common_46 : decode cX9_common 46 = .ok (.iload_n 1, 1) := by decide +kernel
theorem dX9_common_47 : decode cX9_common 47 = .ok (.invokevirtual 165, 3) := by decide +kernel
theorem dX9_common_50 : decode cX9_common 50 = .ok (.ifCond .ne 5, 3) := by decide +kernel
theorem dX9_common_53 : decode cX9_common 53 = .ok (.iconst (-1), 1) := by decide +kernel
theorem dX9_common_54 : decode cX9_common 54 = .ok (.ireturn, 1) := by decide +kernel
theorem dX9_common_55 : decode cX9_common 55 = .ok (.aload_n 0, 1) := by decide +kernel
theorem dX9_common_56 : decode cX9_common 56 = .ok (.getfield 20, 3) := by decide +kernel
theorem dX9_common_59 : decode cX9_common 59 = .ok (.iconst 0, 1) := by decide +kernel
theorem dX9_common_60 : decode cX9_common 60 = .ok (.aaload, 1) := by decide +kernel
theorem dX9_common_61 : decode cX9_common 61 = .ok (.iload_n 1, 1) := by decide +kernel
theorem dX9_common_62 : decode cX9_common 62 = .ok (.iload_n 2, 1) := by decide +kernel
theorem dX9_common_63 : decode cX9_common 63 = .ok (.invokevirtual 315, 3) := by decide +kernel
theorem dX9_common_66 : decode cX9_common 66 = .ok (.istore_n 3, 1) := by decide +kernel
theorem dX9_common_67 : decode cX9_common 67 = .ok (.aload_n 0, 1) := by decide +kernel
theorem dX9_common_68 : decode cX9_common 68 = .ok (.getfield 20, 3) := by decide +kernel
theorem dX9_common_71 : decode cX9_common 71 = .ok (.iconst 1, 1) := by decide +kernel
theorem dX9_common_72 : decode cX9_common 72 = .ok (.aaload, 1) := by decide +kernel
theorem dX9_common_73 : decode cX9_common 73 = .ok (.iload_n 1, 1) := by decide +kernel
theorem dX9_common_74 : decode cX9_common 74 = .ok (.iload_n 2, 1) := by decide +kernel
theorem dX9_common_75 : decode cX9_common 75 = .ok (.invokevirtual 315, 3) := by decide +kernel
theorem dX9_common_78 : decode cX9_common 78 = .ok (.istore 4, 2) := by decide +kernel
theorem dX9_common_80 : decode cX9_common 80 = .ok (.aload_n 0, 1) := by decide +kernel
theorem dX9_common_81 : decode cX9_common 81 = .ok (.getfield 39, 3) := by decide +kernel
theorem dX9_common_84 : decode cX9_common 84 = .ok (.iload_n 3, 1) := by decide +kernel
theorem dX9_common_85 : decode cX9_common 85 = .ok (.iload 4, 2) := by decide +kernel
theorem dX9_common_87 : decode cX9_common 87 = .ok (.ixor, 1) := by decide +kernel
theorem dX9_common_88 : decode cX9_common 88 = .ok (.invokevirtual 104, 3) := by decide +kernel
theorem dX9_common_91 : decode cX9_common 91 = .ok (.pop, 1) := by decide +kernel
theorem dX9_common_92 : decode cX9_common 92 = .ok (.iload_n 3, 1) := by decide +kernel
theorem dX9_common_93 : decode cX9_common 93 = .ok (.iload 4, 2) := by decide +kernel
theorem dX9_common_95 : decode cX9_common 95 = .ok (.iand, 1) := by decide +kernel
theorem dX9_common_96 : decode cX9_common 96 = .ok (.ireturn, 1) := by decide +kernel
theorem dX9_land_0 : decode cX9_land 0 = .ok (.iload_n 1, 1) := by decide +kernel
theorem dX9_land_1 : decode cX9_land 1 = .ok (.invokestatic 83, 3) := by decide +kernel
theorem dX9_land_4 : decode cX9_land 4 = .ok (.ifCond .ne 5, 3) := by decide +kernel
theorem dX9_land_7 : decode cX9_land 7 = .ok (.iconst (-1), 1) := by decide +kernel
theorem dX9_land_8 : decode cX9_land 8 = .ok (.ireturn, 1) := by decide +kernel
theorem dX9_land_9 : decode cX9_land 9 = .ok (.aload_n 0, 1) := by decide +kernel
theorem dX9_land_10 : decode cX9_land 10 = .ok (.getfield 11, 3) := by decide +kernel
theorem dX9_land_13 : decode cX9_land 13 = .ok (.iload_n 1, 1) := by decide +kernel
theorem dX9_land_14 : decode cX9_land 14 = .ok (.aaload, 1) := by decide +kernel
theorem dX9_land_15 : decode cX9_land 15 = .ok (.invokevirtual 107, 3) := by decide +kernel
theorem dX9_land_18 : decode cX9_land 18 = .ok (.ifCond .ne 19, 3) := by decide +kernel
theorem dX9_land_21 : decode cX9_land 21 = .ok (.aload_n 0, 1) := by decide +kernel
theorem dX9_land_22 : decode cX9_land 22 = .ok (.iconst 0, 1) := by decide +kernel
theorem dX9_land_23 : decode cX9_land 23 = .ok (.invokevirtual 162, 3) := by decide +kernel
theorem dX9_land_26 : decode cX9_land 26 = .ok (.ifCond .eq 11, 3) := by decide +kernel
theorem dX9_land_29 : decode cX9_land 29 = .ok (.aload_n 0, 1) := by decide +kernel
theorem dX9_land_30 : decode cX9_land 30 = .ok (.iconst 1, 1) := by decide +kernel
theorem dX9_land_31 : decode cX9_land 31 = .ok (.invokevirtual 162, 3) := by decide +kernel
theorem dX9_land_34 : decode cX9_land 34 = .ok (.ifCond .ne 12, 3) := by decide +kernel
theorem dX9_land_37 : decode cX9_land 37 = .ok (.aload_n 0, 1) := by decide +kernel
theorem dX9_land_38 : decode cX9_land 38 = .ok (.getfield 39, 3) := by decide +kernel
theorem dX9_land_41 : decode cX9_land 41 = .ok (.iconst 1, 1) := by decide +kernel
theorem dX9_land_42 : decode cX9_land 42 = .ok (.invokevirtual 87, 3) := by decide +kernel
theorem dX9_land_45 : decode cX9_land 45 = .ok (.ireturn, 1) := by decide +kernel
theorem dX9_land_46 : decode cX9_land 46 = .ok (.aload_n 0, 1) := by decide +kernel
theorem dX9_land_47 : decode cX9_land 47 = .ok (.getfield 11, 3) := by decide +kernel
theorem dX9_land_50 : decode cX9_land 50 = .ok (.iload_n 1, 1) := by decide +kernel
theorem dX9_land_51 : decode cX9_land 51 = .ok (.aaload, 1) := by decide +kernel
theorem dX9_land_52 : decode cX9_land 52 = .ok (.invokevirtual 216, 3) := by decide +kernel
theorem dX9_land_55 : decode cX9_land 55 = .ok (.istore_n 2, 1) := by decide +kernel
theorem dX9_land_56 : decode cX9_land 56 = .ok (.iload_n 2, 1) := by decide +kernel
theorem dX9_land_57 : decode cX9_land 57 = .ok (.ifCond .eq 12, 3) := by decide +kernel
theorem dX9_land_60 : decode cX9_land 60 = .ok (.aload_n 0, 1) := by decide +kernel
theorem dX9_land_61 : decode cX9_land 61 = .ok (.getfield 39, 3) := by decide +kernel
theorem dX9_land_64 : decode cX9_land 64 = .ok (.iload_n 2, 1) := by decide +kernel
theorem dX9_land_65 : decode cX9_land 65 = .ok (.invokevirtual 87, 3) := by decide +kernel
theorem dX9_land_68 : decode cX9_land 68 = .ok (.ireturn, 1) := by decide +kernel
theorem dX9_land_69 : decode cX9_land 69 = .ok (.aload_n 0, 1) := by decide +kernel
theorem dX9_land_70 : decode cX9_land 70 = .ok (.getfield 46, 3) := by decide +kernel
theorem dX9_land_73 : decode cX9_land 73 = .ok (.aload_n 0, 1) := by decide +kernel
theorem dX9_land_74 : decode cX9_land 74 = .ok (.getfield 11, 3) := by decide +kernel
theorem dX9_land_77 : decode cX9_land 77 = .ok (.iload_n 1, 1) := by decide +kernel
theorem dX9_land_78 : decode cX9_land 78 = .ok (.aaload, 1) := by decide +kernel
theorem dX9_land_79 : decode cX9_land 79 = .ok (.invokevirtual 219, 3) := by decide +kernel
theorem dX9_land_82 : decode cX9_land 82 = .ok (.aload_n 0, 1) := by decide +kernel
theorem dX9_land_83 : decode cX9_land 83 = .ok (.getfield 20, 3) := by decide +kernel
theorem dX9_land_86 : decode cX9_land 86 = .ok (.iconst 0, 1) := by decide +kernel
theorem dX9_land_87 : decode cX9_land 87 = .ok (.aaload, 1) := by decide +kernel
theorem dX9_land_88 : decode cX9_land 88 = .ok (.aload_n 0, 1) := by decide +kernel
theorem dX9_land_89 : decode cX9_land 89 = .ok (.getfield 46, 3) := by decide +kernel
theorem dX9_land_92 : decode cX9_land 92 = .ok (.invokevirtual 318, 3) := by decide +kernel
theorem dX9_land_95 : decode cX9_land 95 = .ok (.istore_n 3, 1) := by decide +kernel
theorem dX9_land_96 : decode cX9_land 96 = .ok (.iload_n 3, 1) := by decide +kernel
theorem dX9_land_97 : decode cX9_land 97 = .ok (.aload_n 0, 1) := by decide +kernel
theorem dX9_land_98 : decode cX9_land 98 = .ok (.getfield 20, 3) := by decide +kernel
theorem dX9_land_101 : decode cX9_land 101 = .ok (.iconst 1, 1) := by decide +kernel
theorem dX9_land_102 : decode cX9_land 102 = .ok (.aaload, 1) := by decide +kernel
theorem dX9_land_103 : decode cX9_land 103 = .ok (.aload_n 0, 1) := by decide +kernel
theorem dX9_land_104 : decode cX9_land 104 = .ok (.getfield 46, 3) := by decide +kernel
theorem dX9_land_107 : decode cX9_land 107 = .ok (.invokevirtual 318, 3) := by decide +kernel
theorem dX9_land_110 : decode cX9_land 110 = .ok (.iadd, 1) := by decide +kernel
theorem dX9_land_111 : decode cX9_land 111 = .ok (.istore 4, 2) := by decide +kernel
theorem dX9_land_113 : decode cX9_land 113 = .ok (.iload 4, 2) := by decide +kernel
theorem dX9_land_115 : decode cX9_land 115 = .ok (.ifCond .ne 14, 3) := by decide +kernel
theorem dX9_land_118 : decode cX9_land 118 = .ok (.aload_n 0, 1) := by decide +kernel
theorem dX9_land_119 : decode cX9_land 119 = .ok (.getfield 39, 3) := by decide +kernel
theorem dX9_land_122 : decode cX9_land 122 = .ok (.iconst 4, 1) := by decide +kernel
theorem dX9_land_123 : decode cX9_land 123 = .ok (.invokevirtual 87, 3) := by decide +kernel
theorem dX9_land_126 : decode cX9_land 126 = .ok (.goto 15, 3) := by decide +kernel
theorem dX9_land_129 : decode cX9_land 129 = .ok (.aload_n 0, 1) := by decide +kernel
theorem dX9_land_130 : decode cX9_land 130 = .ok (.getfield 39, 3) := by decide +kernel
theorem dX9_land_133 : decode cX9_land 133 = .ok (.iload_n 3, 1) := by decide +kernel
theorem dX9_land_134 : decode cX9_land 134 = .ok (.i2l, 1) := by decide +kernel
theorem dX9_land_135 : decode cX9_land 135 = .ok (.iload 4, 2) := by decide +kernel
theorem dX9_land_137 : decode cX9_land 137 = .ok (.i2l, 1) := by decide +kernel
theorem dX9_land_138 : decode cX9_land 138 = .ok (.invokevirtual 246, 3) := by decide +kernel
theorem dX9_land_141 : decode cX9_land 141 = .ok (.ireturn, 1) := by decide +kernel
theorem dX9_leaf_0 : decode cX9_leaf 0 = .ok (.aload_n 0, 1) := by decide +kernel
theorem dX9_leaf_1 : decode cX9_leaf 1 = .ok (.iload_n 1, 1) := by decide +kernel
theorem dX9_leaf_2 : decode cX9_leaf 2 = .ok (.invokevirtual 176, 3) := by decide +kernel
theorem dX9_leaf_5 : decode cX9_leaf 5 = .ok (.ifCond .eq 18, 3) := by decide +kernel
theorem dX9_leaf_8 : decode cX9_leaf 8 = .ok (.aload_n 0, 1) := by decide +kernel
theorem dX9_leaf_9 : decode cX9_leaf 9 = .ok (.iload_n 2, 1) := by decide +kernel
theorem dX9_leaf_10 : decode cX9_leaf 10 = .ok (.invokevirtual 165, 3) := by decide +kernel
theorem dX9_leaf_13 : decode cX9_leaf 13 = .ok (.ifCond .eq 10, 3) := by decide +kernel
theorem dX9_leaf_16 : decode cX9_leaf 16 = .ok (.iload_n 3, 1) := by decide +kernel
theorem dX9_leaf_17 : decode cX9_leaf 17 = .ok (.invokestatic 83, 3) := by decide +kernel
theorem dX9_leaf_20 : decode cX9_leaf 20 = .ok (.ifCond .ne 5, 3) := by decide +kernel
theorem dX9_leaf_23 : decode cX9_leaf 23 = .ok (.iconst (-1), 1) := by decide +kernel
theorem dX9_leaf_24 : decode cX9_leaf 24 = .ok (.ireturn, 1) := by decide +kernel
theorem dX9_leaf_25 : decode cX9_leaf 25 = .ok (.aload_n 0, 1) := by decide +kernel
theorem dX9_leaf_26 : decode cX9_leaf 26 = .ok (.iconst 0, 1) := by decide +kernel
theorem dX9_leaf_27 : decode cX9_leaf 27 = .ok (.iload_n 1, 1) := by decide +kernel
theorem dX9_leaf_28 : decode cX9_leaf 28 = .ok (.iload_n 2, 1) := by decide +kernel
theorem dX9_leaf_29 : decode cX9_leaf 29 = .ok (.iload_n 3, 1) := by decide +kernel
theorem dX9_leaf_30 : decode cX9_leaf 30 = .ok (.bipush (-9), 2) := by decide +kernel
theorem dX9_leaf_32 : decode cX9_leaf 32 = .ok (.invokevirtual 322, 3) := by decide +kernel
theorem dX9_leaf_35 : decode cX9_leaf 35 = .ok (.ireturn, 1) := by decide +kernel
theorem dX9_guessed_0 : decode cX9_guessed 0 = .ok (.aload_n 0, 1) := by decide +kernel
theorem dX9_guessed_1 : decode cX9_guessed 1 = .ok (.iload_n 1, 1) := by decide +kernel
theorem dX9_guessed_2 : decode cX9_guessed 2 = .ok (.invokevirtual 176, 3) := by decide +kernel
theorem dX9_guessed_5 : decode cX9_guessed 5 = .ok (.ifCond .eq 27, 3) := by decide +kernel
theorem dX9_guessed_8 : decode cX9_guessed 8 = .ok (.iload_n 2, 1) := by decide +kernel
theorem dX9_guessed_9 : decode cX9_guessed 9 = .ok (.invokestatic 83, 3) := by decide +kernel
theorem dX9_guessed_12 : decode cX9_guessed 12 = .ok (.ifCond .eq 20, 3) := by decide +kernel
theorem dX9_guessed_15 : decode cX9_guessed 15 = .ok (.aload_n 0, 1) := by decide +kernel
theorem dX9_guessed_16 : decode cX9_guessed 16 = .ok (.iload_n 3, 1) := by decide +kernel
theorem dX9_guessed_17 : decode cX9_guessed 17 = .ok (.invokevirtual 213, 3) := by decide +kernel
theorem dX9_guessed_20 : decode cX9_guessed 20 = .ok (.ifCond .eq 12, 3) := by decide +kernel
theorem dX9_guessed_23 : decode cX9_guessed 23 = .ok (.aload_n 0, 1) := by decide +kernel
theorem dX9_guessed_24 : decode cX9_guessed 24 = .ok (.iload 4, 2) := by decide +kernel
theorem dX9_guessed_26 : decode cX9_guessed 26 = .ok (.invokevirtual 165, 3) := by decide +kernel
theorem dX9_guessed_29 : decode cX9_guessed 29 = .ok (.ifCond .ne 5, 3) := by decide +kernel
theorem dX9_guessed_32 : decode cX9_guessed 32 = .ok (.iconst (-1), 1) := by decide +kernel
theorem dX9_guessed_33 : decode cX9_guessed 33 = .ok (.ireturn, 1) := by decide +kernel
theorem dX9_guessed_34 : decode cX9_guessed 34 = .ok (.aload_n 0, 1) := by decide +kernel
theorem dX9_guessed_35 : decode cX9_guessed 35 = .ok (.iconst 1, 1) := by decide +kernel
theorem dX9_guessed_36 : decode cX9_guessed 36 = .ok (.iload_n 1, 1) := by decide +kernel
theorem dX9_guessed_37 : decode cX9_guessed 37 = .ok (.iload 4, 2) := by decide +kernel
theorem dX9_guessed_39 : decode cX9_guessed 39 = .ok (.iload_n 2, 1) := by decide +kernel
theorem dX9_guessed_40 : decode cX9_guessed 40 = .ok (.iload_n 3, 1) := by decide +kernel
theorem dX9_guessed_41 : decode cX9_guessed 41 = .ok (.invokevirtual 322, 3) := by decide +kernel
theorem dX9_guessed_44 : decode cX9_guessed 44 = .ok (.ireturn, 1) := by decide +kernel
theorem dX9_told_0 : decode cX9_told 0 = .ok (.iload_n 1, 1) := by decide +kernel
theorem dX9_told_1 : decode cX9_told 1 = .ok (.ifCond .lt 20, 3) := by decide +kernel
theorem dX9_told_4 : decode cX9_told 4 = .ok (.iload_n 1, 1) := by decide +kernel
theorem dX9_told_5 : decode cX9_told 5 = .ok (.aload_n 0, 1) := by decide +kernel
theorem dX9_told_6 : decode cX9_told 6 = .ok (.getfield 153, 3) := by decide +kernel
theorem dX9_told_9 : decode cX9_told 9 = .ok (.if_icmp .ge 12, 3) := by decide +kernel
theorem dX9_told_12 : decode cX9_told 12 = .ok (.iload_n 2, 1) := by decide +kernel
theorem dX9_told_13 : decode cX9_told 13 = .ok (.ifCond .lt 8, 3) := by decide +kernel
theorem dX9_told_16 : decode cX9_told 16 = .ok (.iload_n 2, 1) := by decide +kernel
theorem dX9_told_17 : decode cX9_told 17 = .ok (.iconst 4, 1) := by decide +kernel
theorem dX9_told_18 : decode cX9_told 18 = .ok (.if_icmp .le 5, 3) := by decide +kernel
theorem dX9_told_21 : decode cX9_told 21 = .ok (.iconst (-1), 1) := by decide +kernel
theorem dX9_told_22 : decode cX9_told 22 = .ok (.ireturn, 1) := by decide +kernel
theorem dX9_told_23 : decode cX9_told 23 = .ok (.aload_n 0, 1) := by decide +kernel
theorem dX9_told_24 : decode cX9_told 24 = .ok (.getfield 39, 3) := by decide +kernel
theorem dX9_told_27 : decode cX9_told 27 = .ok (.aload_n 0, 1) := by decide +kernel
theorem dX9_told_28 : decode cX9_told 28 = .ok (.getfield 32, 3) := by decide +kernel
theorem dX9_told_31 : decode cX9_told 31 = .ok (.iload_n 1, 1) := by decide +kernel
theorem dX9_told_32 : decode cX9_told 32 = .ok (.aaload, 1) := by decide +kernel
theorem dX9_told_33 : decode cX9_told 33 = .ok (.iload_n 2, 1) := by decide +kernel
theorem dX9_told_34 : decode cX9_told 34 = .ok (.invokevirtual 326, 3) := by decide +kernel
theorem dX9_told_37 : decode cX9_told 37 = .ok (.invokevirtual 104, 3) := by decide +kernel
theorem dX9_told_40 : decode cX9_told 40 = .ok (.ireturn, 1) := by decide +kernel
theorem dX9_back_0 : decode cX9_back 0 = .ok (.iload_n 1, 1) := by decide +kernel
theorem dX9_back_1 : decode cX9_back 1 = .ok (.ifCond .lt 11, 3) := by decide +kernel
theorem dX9_back_4 : decode cX9_back 4 = .ok (.iload_n 1, 1) := by decide +kernel
theorem dX9_back_5 : decode cX9_back 5 = .ok (.aload_n 0, 1) := by decide +kernel
theorem dX9_back_6 : decode cX9_back 6 = .ok (.getfield 153, 3) := by decide +kernel
theorem dX9_back_9 : decode cX9_back 9 = .ok (.if_icmp .le 5, 3) := by decide +kernel
theorem dX9_back_12 : decode cX9_back 12 = .ok (.iconst (-1), 1) := by decide +kernel
theorem dX9_back_13 : decode cX9_back 13 = .ok (.ireturn, 1) := by decide +kernel
theorem dX9_back_14 : decode cX9_back 14 = .ok (.aload_n 0, 1) := by decide +kernel
theorem dX9_back_15 : decode cX9_back 15 = .ok (.getfield 153, 3) := by decide +kernel
theorem dX9_back_18 : decode cX9_back 18 = .ok (.iload_n 1, 1) := by decide +kernel
theorem dX9_back_19 : decode cX9_back 19 = .ok (.isub, 1) := by decide +kernel
theorem dX9_back_20 : decode cX9_back 20 = .ok (.istore_n 2, 1) := by decide +kernel
theorem dX9_back_21 : decode cX9_back 21 = .ok (.aload_n 0, 1) := by decide +kernel
theorem dX9_back_22 : decode cX9_back 22 = .ok (.iload_n 1, 1) := by decide +kernel
theorem dX9_back_23 : decode cX9_back 23 = .ok (.putfield 153, 3) := by decide +kernel
theorem dX9_back_26 : decode cX9_back 26 = .ok (.iload_n 2, 1) := by decide +kernel
theorem dX9_back_27 : decode cX9_back 27 = .ok (.ireturn, 1) := by decide +kernel
theorem dX9_hand_0 : decode cX9_hand 0 = .ok (.aload_n 0, 1) := by decide +kernel
theorem dX9_hand_1 : decode cX9_hand 1 = .ok (.iload_n 1, 1) := by decide +kernel
theorem dX9_hand_2 : decode cX9_hand 2 = .ok (.invokevirtual 176, 3) := by decide +kernel
theorem dX9_hand_5 : decode cX9_hand 5 = .ok (.ifCond .ne 5, 3) := by decide +kernel
theorem dX9_hand_8 : decode cX9_hand 8 = .ok (.iconst (-1), 1) := by decide +kernel
theorem dX9_hand_9 : decode cX9_hand 9 = .ok (.ireturn, 1) := by decide +kernel
theorem dX9_hand_10 : decode cX9_hand 10 = .ok (.aload_n 0, 1) := by decide +kernel
theorem dX9_hand_11 : decode cX9_hand 11 = .ok (.iload_n 1, 1) := by decide +kernel
theorem dX9_hand_12 : decode cX9_hand 12 = .ok (.iconst 0, 1) := by decide +kernel
theorem dX9_hand_13 : decode cX9_hand 13 = .ok (.invokevirtual 327, 3) := by decide +kernel
theorem dX9_hand_16 : decode cX9_hand 16 = .ok (.ifCond .ne 12, 3) := by decide +kernel
theorem dX9_hand_19 : decode cX9_hand 19 = .ok (.aload_n 0, 1) := by decide +kernel
theorem dX9_hand_20 : decode cX9_hand 20 = .ok (.getfield 39, 3) := by decide +kernel
theorem dX9_hand_23 : decode cX9_hand 23 = .ok (.iconst 4, 1) := by decide +kernel
theorem dX9_hand_24 : decode cX9_hand 24 = .ok (.invokevirtual 87, 3) := by decide +kernel
theorem dX9_hand_27 : decode cX9_hand 27 = .ok (.ireturn, 1) := by decide +kernel
theorem dX9_hand_28 : decode cX9_hand 28 = .ok (.iconst 0, 1) := by decide +kernel
theorem dX9_hand_29 : decode cX9_hand 29 = .ok (.istore_n 2, 1) := by decide +kernel
theorem dX9_hand_30 : decode cX9_hand 30 = .ok (.aload_n 0, 1) := by decide +kernel
theorem dX9_hand_31 : decode cX9_hand 31 = .ok (.iload_n 1, 1) := by decide +kernel
theorem dX9_hand_32 : decode cX9_hand 32 = .ok (.iconst 0, 1) := by decide +kernel
theorem dX9_hand_33 : decode cX9_hand 33 = .ok (.invokevirtual 331, 3) := by decide +kernel
theorem dX9_hand_36 : decode cX9_hand 36 = .ok (.istore_n 3, 1) := by decide +kernel
theorem dX9_hand_37 : decode cX9_hand 37 = .ok (.iconst 1, 1) := by decide +kernel
theorem dX9_hand_38 : decode cX9_hand 38 = .ok (.istore 4, 2) := by decide +kernel
theorem dX9_hand_40 : decode cX9_hand 40 = .ok (.iload 4, 2) := by decide +kernel
theorem dX9_hand_42 : decode cX9_hand 42 = .ok (.bipush 6, 2) := by decide +kernel
theorem dX9_hand_44 : decode cX9_hand 44 = .ok (.if_icmp .ge 30, 3) := by decide +kernel
theorem dX9_hand_47 : decode cX9_hand 47 = .ok (.aload_n 0, 1) := by decide +kernel
theorem dX9_hand_48 : decode cX9_hand 48 = .ok (.iload_n 1, 1) := by decide +kernel
theorem dX9_hand_49 : decode cX9_hand 49 = .ok (.iload 4, 2) := by decide +kernel
theorem dX9_hand_51 : decode cX9_hand 51 = .ok (.invokevirtual 331, 3) := by decide +kernel
theorem dX9_hand_54 : decode cX9_hand 54 = .ok (.istore 5, 2) := by decide +kernel
theorem dX9_hand_56 : decode cX9_hand 56 = .ok (.iload 5, 2) := by decide +kernel
theorem dX9_hand_58 : decode cX9_hand 58 = .ok (.iload_n 3, 1) := by decide +kernel
theorem dX9_hand_59 : decode cX9_hand 59 = .ok (.if_icmp .ge 9, 3) := by decide +kernel
theorem dX9_hand_62 : decode cX9_hand 62 = .ok (.iload 5, 2) := by decide +kernel
theorem dX9_hand_64 : decode cX9_hand 64 = .ok (.istore_n 3, 1) := by decide +kernel
theorem dX9_hand_65 : decode cX9_hand 65 = .ok (.iload 4, 2) := by decide +kernel
theorem dX9_hand_67 : decode cX9_hand 67 = .ok (.istore_n 2, 1) := by decide +kernel
theorem dX9_hand_68 : decode cX9_hand 68 = .ok (.iinc 4 1, 3) := by decide +kernel
theorem dX9_hand_71 : decode cX9_hand 71 = .ok (.goto (-31), 3) := by decide +kernel
theorem dX9_hand_74 : decode cX9_hand 74 = .ok (.aload_n 0, 1) := by decide +kernel
theorem dX9_hand_75 : decode cX9_hand 75 = .ok (.getfield 39, 3) := by decide +kernel
theorem dX9_hand_78 : decode cX9_hand 78 = .ok (.iload_n 3, 1) := by decide +kernel
theorem dX9_hand_79 : decode cX9_hand 79 = .ok (.invokevirtual 104, 3) := by decide +kernel
theorem dX9_hand_82 : decode cX9_hand 82 = .ok (.pop, 1) := by decide +kernel
theorem dX9_hand_83 : decode cX9_hand 83 = .ok (.iload_n 2, 1) := by decide +kernel
theorem dX9_hand_84 : decode cX9_hand 84 = .ok (.ireturn, 1) := by decide +kernel
theorem dX9_guesser_0 : decode cX9_guesser 0 = .ok (.aload_n 0, 1) := by decide +kernel
theorem dX9_guesser_1 : decode cX9_guesser 1 = .ok (.iload_n 1, 1) := by decide +kernel
theorem dX9_guesser_2 : decode cX9_guesser 2 = .ok (.invokevirtual 176, 3) := by decide +kernel
theorem dX9_guesser_5 : decode cX9_guesser 5 = .ok (.ifCond .ne 5, 3) := by decide +kernel
theorem dX9_guesser_8 : decode cX9_guesser 8 = .ok (.iconst (-1), 1) := by decide +kernel
theorem dX9_guesser_9 : decode cX9_guesser 9 = .ok (.ireturn, 1) := by decide +kernel
theorem dX9_guesser_10 : decode cX9_guesser 10 = .ok (.aload_n 0, 1) := by decide +kernel
theorem dX9_guesser_11 : decode cX9_guesser 11 = .ok (.iload_n 1, 1) := by decide +kernel
theorem dX9_guesser_12 : decode cX9_guesser 12 = .ok (.iconst 1, 1) := by decide +kernel
theorem dX9_guesser_13 : decode cX9_guesser 13 = .ok (.invokevirtual 327, 3) := by decide +kernel
theorem dX9_guesser_16 : decode cX9_guesser 16 = .ok (.istore_n 2, 1) := by decide +kernel
theorem dX9_guesser_17 : decode cX9_guesser 17 = .ok (.iload_n 2, 1) := by decide +kernel
theorem dX9_guesser_18 : decode cX9_guesser 18 = .ok (.bipush 8, 2) := by decide +kernel
theorem dX9_guesser_20 : decode cX9_guesser 20 = .ok (.if_icmp .le 6, 3) := by decide +kernel
theorem dX9_guesser_23 : decode cX9_guesser 23 = .ok (.bipush (-6), 2) := by decide +kernel
theorem dX9_guesser_25 : decode cX9_guesser 25 = .ok (.ireturn, 1) := by decide +kernel
theorem dX9_guesser_26 : decode cX9_guesser 26 = .ok (.iload_n 2, 1) := by decide +kernel
theorem dX9_guesser_27 : decode cX9_guesser 27 = .ok (.ifCond .ne 12, 3) := by decide +kernel
theorem dX9_guesser_30 : decode cX9_guesser 30 = .ok (.aload_n 0, 1) := by decide +kernel
theorem dX9_guesser_31 : decode cX9_guesser 31 = .ok (.getfield 39, 3) := by decide +kernel
theorem dX9_guesser_34 : decode cX9_guesser 34 = .ok (.iconst 4, 1) := by decide +kernel
theorem dX9_guesser_35 : decode cX9_guesser 35 = .ok (.invokevirtual 87, 3) := by decide +kernel
theorem dX9_guesser_38 : decode cX9_guesser 38 = .ok (.ireturn, 1) := by decide +kernel
theorem dX9_guesser_39 : decode cX9_guesser 39 = .ok (.iconst 0, 1) := by decide +kernel
theorem dX9_guesser_40 : decode cX9_guesser 40 = .ok (.istore_n 3, 1) := by decide +kernel
theorem dX9_guesser_41 : decode cX9_guesser 41 = .ok (.lconst 0, 1) := by decide +kernel
theorem dX9_guesser_42 : decode cX9_guesser 42 = .ok (.lstore 4, 2) := by decide +kernel
theorem dX9_guesser_44 : decode cX9_guesser 44 = .ok (.lconst 0, 1) := by decide +kernel
theorem dX9_guesser_45 : decode cX9_guesser 45 = .ok (.lstore 6, 2) := by decide +kernel
theorem dX9_guesser_47 : decode cX9_guesser 47 = .ok (.iconst 0, 1) := by decide +kernel
theorem dX9_guesser_48 : decode cX9_guesser 48 = .ok (.istore 8, 2) := by decide +kernel
theorem dX9_guesser_50 : decode cX9_guesser 50 = .ok (.iload 8, 2) := by decide +kernel
theorem dX9_guesser_52 : decode cX9_guesser 52 = .ok (.bipush 6, 2) := by decide +kernel
theorem dX9_guesser_54 : decode cX9_guesser 54 = .ok (.if_icmp .ge 40, 3) := by decide +kernel
theorem dX9_guesser_57 : decode cX9_guesser 57 = .ok (.aload_n 0, 1) := by decide +kernel
theorem dX9_guesser_58 : decode cX9_guesser 58 = .ok (.iload_n 1, 1) := by decide +kernel
theorem dX9_guesser_59 : decode cX9_guesser 59 = .ok (.iload 8, 2) := by decide +kernel
theorem dX9_guesser_61 : decode cX9_guesser 61 = .ok (.invokevirtual 334, 3) := by decide +kernel
theorem dX9_guesser_64 : decode cX9_guesser 64 = .ok (.lstore 9, 2) := by decide +kernel
theorem dX9_guesser_66 : decode cX9_guesser 66 = .ok (.lload 6, 2) := by decide +kernel
theorem dX9_guesser_68 : decode cX9_guesser 68 = .ok (.lload 9, 2) := by decide +kernel
theorem dX9_guesser_70 : decode cX9_guesser 70 = .ok (.ladd, 1) := by decide +kernel
theorem dX9_guesser_71 : decode cX9_guesser 71 = .ok (.lstore 6, 2) := by decide +kernel
theorem dX9_guesser_73 : decode cX9_guesser 73 = .ok (.lload 9, 2) := by decide +kernel
theorem dX9_guesser_75 : decode cX9_guesser 75 = .ok (.lload 4, 2) := by decide +kernel
theorem dX9_guesser_77 : decode cX9_guesser 77 = .ok (.lcmp, 1) := by decide +kernel
theorem dX9_guesser_78 : decode cX9_guesser 78 = .ok (.ifCond .le 10, 3) := by decide +kernel
theorem dX9_guesser_81 : decode cX9_guesser 81 = .ok (.lload 9, 2) := by decide +kernel
theorem dX9_guesser_83 : decode cX9_guesser 83 = .ok (.lstore 4, 2) := by decide +kernel
theorem dX9_guesser_85 : decode cX9_guesser 85 = .ok (.iload 8, 2) := by decide +kernel
theorem dX9_guesser_87 : decode cX9_guesser 87 = .ok (.istore_n 3, 1) := by decide +kernel
theorem dX9_guesser_88 : decode cX9_guesser 88 = .ok (.iinc 8 1, 3) := by decide +kernel
theorem dX9_guesser_91 : decode cX9_guesser 91 = .ok (.goto (-41), 3) := by decide +kernel
theorem dX9_guesser_94 : decode cX9_guesser 94 = .ok (.lload 6, 2) := by decide +kernel
theorem dX9_guesser_96 : decode cX9_guesser 96 = .ok (.lconst 0, 1) := by decide +kernel
theorem dX9_guesser_97 : decode cX9_guesser 97 = .ok (.lcmp, 1) := by decide +kernel
theorem dX9_guesser_98 : decode cX9_guesser 98 = .ok (.ifCond .ne 12, 3) := by decide +kernel
theorem dX9_guesser_101 : decode cX9_guesser 101 = .ok (.aload_n 0, 1) := by decide +kernel
theorem dX9_guesser_102 : decode cX9_guesser 102 = .ok (.getfield 39, 3) := by decide +kernel
theorem dX9_guesser_105 : decode cX9_guesser 105 = .ok (.iconst 4, 1) := by decide +kernel
theorem dX9_guesser_106 : decode cX9_guesser 106 = .ok (.invokevirtual 87, 3) := by decide +kernel
theorem dX9_guesser_109 : decode cX9_guesser 109 = .ok (.ireturn, 1) := by decide +kernel
theorem dX9_guesser_110 : decode cX9_guesser 110 = .ok (.aload_n 0, 1) := by decide +kernel
theorem dX9_guesser_111 : decode cX9_guesser 111 = .ok (.getfield 39, 3) := by decide +kernel
theorem dX9_guesser_114 : decode cX9_guesser 114 = .ok (.lload 4, 2) := by decide +kernel
theorem dX9_guesser_116 : decode cX9_guesser 116 = .ok (.lload 6, 2) := by decide +kernel
theorem dX9_guesser_118 : decode cX9_guesser 118 = .ok (.invokevirtual 246, 3) := by decide +kernel
theorem dX9_guesser_121 : decode cX9_guesser 121 = .ok (.pop, 1) := by decide +kernel
theorem dX9_guesser_122 : decode cX9_guesser 122 = .ok (.iload_n 3, 1) := by decide +kernel
theorem dX9_guesser_123 : decode cX9_guesser 123 = .ok (.ireturn, 1) := by decide +kernel
theorem dX9_machine_0 : decode cX9_machine 0 = .ok (.iload_n 1, 1) := by decide +kernel
theorem dX9_machine_1 : decode cX9_machine 1 = .ok (.invokestatic 83, 3) := by decide +kernel
theorem dX9_machine_4 : decode cX9_machine 4 = .ok (.ifCond .ne 5, 3) := by decide +kernel
theorem dX9_machine_7 : decode cX9_machine 7 = .ok (.iconst (-1), 1) := by decide +kernel
theorem dX9_machine_8 : decode cX9_machine 8 = .ok (.ireturn, 1) := by decide +kernel
theorem dX9_machine_9 : decode cX9_machine 9 = .ok (.aload_n 0, 1) := by decide +kernel
theorem dX9_machine_10 : decode cX9_machine 10 = .ok (.getfield 11, 3) := by decide +kernel
theorem dX9_machine_13 : decode cX9_machine 13 = .ok (.iload_n 1, 1) := by decide +kernel
theorem dX9_machine_14 : decode cX9_machine 14 = .ok (.aaload, 1) := by decide +kernel
theorem dX9_machine_15 : decode cX9_machine 15 = .ok (.invokevirtual 216, 3) := by decide +kernel
theorem dX9_machine_18 : decode cX9_machine 18 = .ok (.istore_n 2, 1) := by decide +kernel
theorem dX9_machine_19 : decode cX9_machine 19 = .ok (.iload_n 2, 1) := by decide +kernel
theorem dX9_machine_20 : decode cX9_machine 20 = .ok (.ifCond .eq 12, 3) := by decide +kernel
theorem dX9_machine_23 : decode cX9_machine 23 = .ok (.aload_n 0, 1) := by decide +kernel
theorem dX9_machine_24 : decode cX9_machine 24 = .ok (.getfield 39, 3) := by decide +kernel
theorem dX9_machine_27 : decode cX9_machine 27 = .ok (.iload_n 2, 1) := by decide +kernel
theorem dX9_machine_28 : decode cX9_machine 28 = .ok (.invokevirtual 87, 3) := by decide +kernel
theorem dX9_machine_31 : decode cX9_machine 31 = .ok (.ireturn, 1) := by decide +kernel
theorem dX9_machine_32 : decode cX9_machine 32 = .ok (.aload_n 0, 1) := by decide +kernel
theorem dX9_machine_33 : decode cX9_machine 33 = .ok (.getfield 11, 3) := by decide +kernel
theorem dX9_machine_36 : decode cX9_machine 36 = .ok (.iload_n 1, 1) := by decide +kernel
theorem dX9_machine_37 : decode cX9_machine 37 = .ok (.aaload, 1) := by decide +kernel
theorem dX9_machine_38 : decode cX9_machine 38 = .ok (.invokevirtual 293, 3) := by decide +kernel
theorem dX9_machine_41 : decode cX9_machine 41 = .ok (.istore_n 3, 1) := by decide +kernel
theorem dX9_machine_42 : decode cX9_machine 42 = .ok (.aload_n 0, 1) := by decide +kernel
theorem dX9_machine_43 : decode cX9_machine 43 = .ok (.iload_n 3, 1) := by decide +kernel
theorem dX9_machine_44 : decode cX9_machine 44 = .ok (.bipush (-9), 2) := by decide +kernel
theorem dX9_machine_46 : decode cX9_machine 46 = .ok (.invokevirtual 338, 3) := by decide +kernel
theorem dX9_machine_49 : decode cX9_machine 49 = .ok (.istore 4, 2) := by decide +kernel
theorem dX9_machine_51 : decode cX9_machine 51 = .ok (.iload 4, 2) := by decide +kernel
theorem dX9_machine_53 : decode cX9_machine 53 = .ok (.bipush (-9), 2) := by decide +kernel
theorem dX9_machine_55 : decode cX9_machine 55 = .ok (.if_icmp .ne 12, 3) := by decide +kernel
theorem dX9_machine_58 : decode cX9_machine 58 = .ok (.aload_n 0, 1) := by decide +kernel
theorem dX9_machine_59 : decode cX9_machine 59 = .ok (.getfield 39, 3) := by decide +kernel
theorem dX9_machine_62 : decode cX9_machine 62 = .ok (.iconst 4, 1) := by decide +kernel
theorem dX9_machine_63 : decode cX9_machine 63 = .ok (.invokevirtual 87, 3) := by decide +kernel
theorem dX9_machine_66 : decode cX9_machine 66 = .ok (.ireturn, 1) := by decide +kernel
theorem dX9_machine_67 : decode cX9_machine 67 = .ok (.aload_n 0, 1) := by decide +kernel
theorem dX9_machine_68 : decode cX9_machine 68 = .ok (.getfield 39, 3) := by decide +kernel
theorem dX9_machine_71 : decode cX9_machine 71 = .ok (.aload_n 0, 1) := by decide +kernel
theorem dX9_machine_72 : decode cX9_machine 72 = .ok (.getfield 32, 3) := by decide +kernel
theorem dX9_machine_75 : decode cX9_machine 75 = .ok (.iload 4, 2) := by decide +kernel
theorem dX9_machine_77 : decode cX9_machine 77 = .ok (.aaload, 1) := by decide +kernel
theorem dX9_machine_78 : decode cX9_machine 78 = .ok (.iload_n 3, 1) := by decide +kernel
theorem dX9_machine_79 : decode cX9_machine 79 = .ok (.invokevirtual 341, 3) := by decide +kernel
theorem dX9_machine_82 : decode cX9_machine 82 = .ok (.invokevirtual 104, 3) := by decide +kernel
theorem dX9_machine_85 : decode cX9_machine 85 = .ok (.pop, 1) := by decide +kernel
theorem dX9_machine_86 : decode cX9_machine 86 = .ok (.aload_n 0, 1) := by decide +kernel
theorem dX9_machine_87 : decode cX9_machine 87 = .ok (.getfield 32, 3) := by decide +kernel
theorem dX9_machine_90 : decode cX9_machine 90 = .ok (.iload 4, 2) := by decide +kernel
theorem dX9_machine_92 : decode cX9_machine 92 = .ok (.aaload, 1) := by decide +kernel
theorem dX9_machine_93 : decode cX9_machine 93 = .ok (.getfield 344, 3) := by decide +kernel
theorem dX9_machine_96 : decode cX9_machine 96 = .ok (.ireturn, 1) := by decide +kernel
theorem dX9_held_0 : decode cX9_held 0 = .ok (.aload_n 0, 1) := by decide +kernel
theorem dX9_held_1 : decode cX9_held 1 = .ok (.getfield 153, 3) := by decide +kernel
theorem dX9_held_4 : decode cX9_held 4 = .ok (.aload_n 0, 1) := by decide +kernel
theorem dX9_held_5 : decode cX9_held 5 = .ok (.invokevirtual 347, 3) := by decide +kernel
theorem dX9_held_8 : decode cX9_held 8 = .ok (.isub, 1) := by decide +kernel
theorem dX9_held_9 : decode cX9_held 9 = .ok (.istore_n 1, 1) := by decide +kernel
theorem dX9_held_10 : decode cX9_held 10 = .ok (.iload_n 1, 1) := by decide +kernel
theorem dX9_held_11 : decode cX9_held 11 = .ok (.iconst 2, 1) := by decide +kernel
theorem dX9_held_12 : decode cX9_held 12 = .ok (.if_icmp .ge 12, 3) := by decide +kernel
theorem dX9_held_15 : decode cX9_held 15 = .ok (.aload_n 0, 1) := by decide +kernel
theorem dX9_held_16 : decode cX9_held 16 = .ok (.getfield 39, 3) := by decide +kernel
theorem dX9_held_19 : decode cX9_held 19 = .ok (.iconst 4, 1) := by decide +kernel
theorem dX9_held_20 : decode cX9_held 20 = .ok (.invokevirtual 87, 3) := by decide +kernel
theorem dX9_held_23 : decode cX9_held 23 = .ok (.ireturn, 1) := by decide +kernel
theorem dX9_held_24 : decode cX9_held 24 = .ok (.iconst 0, 1) := by decide +kernel
theorem dX9_held_25 : decode cX9_held 25 = .ok (.istore_n 2, 1) := by decide +kernel
theorem dX9_held_26 : decode cX9_held 26 = .ok (.iconst 0, 1) := by decide +kernel
theorem dX9_held_27 : decode cX9_held 27 = .ok (.istore_n 3, 1) := by decide +kernel
theorem dX9_held_28 : decode cX9_held 28 = .ok (.iload_n 3, 1) := by decide +kernel
theorem dX9_held_29 : decode cX9_held 29 = .ok (.aload_n 0, 1) := by decide +kernel
theorem dX9_held_30 : decode cX9_held 30 = .ok (.getfield 153, 3) := by decide +kernel
theorem dX9_held_33 : decode cX9_held 33 = .ok (.if_icmp .ge 72, 3) := by decide +kernel
theorem dX9_held_36 : decode cX9_held 36 = .ok (.aload_n 0, 1) := by decide +kernel
theorem dX9_held_37 : decode cX9_held 37 = .ok (.getfield 32, 3) := by decide +kernel
theorem dX9_held_40 : decode cX9_held 40 = .ok (.iload_n 3, 1) := by decide +kernel
theorem dX9_held_41 : decode cX9_held 41 = .ok (.aaload, 1) := by decide +kernel
theorem dX9_held_42 : decode cX9_held 42 = .ok (.getfield 350, 3) := by decide +kernel
theorem dX9_held_45 : decode cX9_held 45 = .ok (.ifCond .eq 6, 3) := by decide +kernel
theorem dX9_held_48 : decode cX9_held 48 = .ok (.goto 51, 3) := by decide +kernel
theorem dX9_held_51 : decode cX9_held 51 = .ok (.aload_n 0, 1) := by decide +kernel
theorem dX9_held_52 : decode cX9_held 52 = .ok (.aload_n 0, 1) := by decide +kernel
theorem dX9_held_53 : decode cX9_held 53 = .ok (.getfield 32, 3) := by decide +kernel
theorem dX9_held_56 : decode cX9_held 56 = .ok (.iload_n 3, 1) := by decide +kernel
theorem dX9_held_57 : decode cX9_held 57 = .ok (.aaload, 1) := by decide +kernel
theorem dX9_held_58 : decode cX9_held 58 = .ok (.getfield 354, 3) := by decide +kernel
theorem dX9_held_61 : decode cX9_held 61 = .ok (.iload_n 3, 1) := by decide +kernel
theorem dX9_held_62 : decode cX9_held 62 = .ok (.invokevirtual 338, 3) := by decide +kernel
theorem dX9_held_65 : decode cX9_held 65 = .ok (.istore 4, 2) := by decide +kernel
theorem dX9_held_67 : decode cX9_held 67 = .ok (.iload 4, 2) := by decide +kernel
theorem dX9_held_69 : decode cX9_held 69 = .ok (.bipush (-9), 2) := by decide +kernel
theorem dX9_held_71 : decode cX9_held 71 = .ok (.if_icmp .eq 28, 3) := by decide +kernel
theorem dX9_held_74 : decode cX9_held 74 = .ok (.aload_n 0, 1) := by decide +kernel
theorem dX9_held_75 : decode cX9_held 75 = .ok (.getfield 32, 3) := by decide +kernel
theorem dX9_held_78 : decode cX9_held 78 = .ok (.iload 4, 2) := by decide +kernel
theorem dX9_held_80 : decode cX9_held 80 = .ok (.aaload, 1) := by decide +kernel
theorem dX9_held_81 : decode cX9_held 81 = .ok (.getfield 344, 3) := by decide +kernel
theorem dX9_held_84 : decode cX9_held 84 = .ok (.aload_n 0, 1) := by decide +kernel
theorem dX9_held_85 : decode cX9_held 85 = .ok (.getfield 32, 3) := by decide +kernel
theorem dX9_held_88 : decode cX9_held 88 = .ok (.iload_n 3, 1) := by decide +kernel
theorem dX9_held_89 : decode cX9_held 89 = .ok (.aaload, 1) := by decide +kernel
theorem dX9_held_90 : decode cX9_held 90 = .ok (.getfield 344, 3) := by decide +kernel
theorem dX9_held_93 : decode cX9_held 93 = .ok (.if_icmp .ne 6, 3) := by decide +kernel
theorem dX9_held_96 : decode cX9_held 96 = .ok (.iinc 2 1, 3) := by decide +kernel
theorem dX9_held_99 : decode cX9_held 99 = .ok (.iinc 3 1, 3) := by decide +kernel
theorem dX9_held_102 : decode cX9_held 102 = .ok (.goto (-74), 3) := by decide +kernel
theorem dX9_held_105 : decode cX9_held 105 = .ok (.aload_n 0, 1) := by decide +kernel
theorem dX9_held_106 : decode cX9_held 106 = .ok (.getfield 39, 3) := by decide +kernel
theorem dX9_held_109 : decode cX9_held 109 = .ok (.iload_n 1, 1) := by decide +kernel
theorem dX9_held_110 : decode cX9_held 110 = .ok (.invokevirtual 104, 3) := by decide +kernel
theorem dX9_held_113 : decode cX9_held 113 = .ok (.pop, 1) := by decide +kernel
theorem dX9_held_114 : decode cX9_held 114 = .ok (.iload_n 2, 1) := by decide +kernel
theorem dX9_held_115 : decode cX9_held 115 = .ok (.ireturn, 1) := by decide +kernel
theorem dX9_sign_0 : decode cX9_sign 0 = .ok (.aload_n 0, 1) := by decide +kernel
theorem dX9_sign_1 : decode cX9_sign 1 = .ok (.iload_n 1, 1) := by decide +kernel
theorem dX9_sign_2 : decode cX9_sign 2 = .ok (.invokevirtual 176, 3) := by decide +kernel
theorem dX9_sign_5 : decode cX9_sign 5 = .ok (.ifCond .eq 24, 3) := by decide +kernel
theorem dX9_sign_8 : decode cX9_sign 8 = .ok (.aload_n 0, 1) := by decide +kernel
theorem dX9_sign_9 : decode cX9_sign 9 = .ok (.iload_n 2, 1) := by decide +kernel
theorem dX9_sign_10 : decode cX9_sign 10 = .ok (.invokevirtual 176, 3) := by decide +kernel
theorem dX9_sign_13 : decode cX9_sign 13 = .ok (.ifCond .eq 16, 3) := by decide +kernel
theorem dX9_sign_16 : decode cX9_sign 16 = .ok (.iload_n 1, 1) := by decide +kernel
theorem dX9_sign_17 : decode cX9_sign 17 = .ok (.iload_n 2, 1) := by decide +kernel
theorem dX9_sign_18 : decode cX9_sign 18 = .ok (.if_icmp .eq 11, 3) := by decide +kernel
theorem dX9_sign_21 : decode cX9_sign 21 = .ok (.aload_n 0, 1) := by decide +kernel
theorem dX9_sign_22 : decode cX9_sign 22 = .ok (.iload_n 3, 1) := by decide +kernel
theorem dX9_sign_23 : decode cX9_sign 23 = .ok (.invokevirtual 165, 3) := by decide +kernel
theorem dX9_sign_26 : decode cX9_sign 26 = .ok (.ifCond .ne 5, 3) := by decide +kernel
theorem dX9_sign_29 : decode cX9_sign 29 = .ok (.iconst (-1), 1) := by decide +kernel
theorem dX9_sign_30 : decode cX9_sign 30 = .ok (.ireturn, 1) := by decide +kernel
theorem dX9_sign_31 : decode cX9_sign 31 = .ok (.iload 4, 2) := by decide +kernel
theorem dX9_sign_33 : decode cX9_sign 33 = .ok (.ifCond .lt 18, 3) := by decide +kernel
theorem dX9_sign_36 : decode cX9_sign 36 = .ok (.iload 4, 2) := by decide +kernel
theorem dX9_sign_38 : decode cX9_sign 38 = .ok (.bipush 9, 2) := by decide +kernel
theorem dX9_sign_40 : decode cX9_sign 40 = .ok (.if_icmp .gt 11, 3) := by decide +kernel
theorem dX9_sign_43 : decode cX9_sign 43 = .ok (.iload 5, 2) := by decide +kernel
theorem dX9_sign_45 : decode cX9_sign 45 = .ok (.invokestatic 83, 3) := by decide +kernel
theorem dX9_sign_48 : decode cX9_sign 48 = .ok (.ifCond .ne 5, 3) := by decide +kernel
theorem dX9_sign_51 : decode cX9_sign 51 = .ok (.iconst (-1), 1) := by decide +kernel
theorem dX9_sign_52 : decode cX9_sign 52 = .ok (.ireturn, 1) := by decide +kernel
theorem dX9_sign_53 : decode cX9_sign 53 = .ok (.aload_n 0, 1) := by decide +kernel
theorem dX9_sign_54 : decode cX9_sign 54 = .ok (.getfield 46, 3) := by decide +kernel
theorem dX9_sign_57 : decode cX9_sign 57 = .ok (.aload_n 0, 1) := by decide +kernel
theorem dX9_sign_58 : decode cX9_sign 58 = .ok (.getfield 26, 3) := by decide +kernel
theorem dX9_sign_61 : decode cX9_sign 61 = .ok (.iload_n 1, 1) := by decide +kernel
theorem dX9_sign_62 : decode cX9_sign 62 = .ok (.aaload, 1) := by decide +kernel
theorem dX9_sign_63 : decode cX9_sign 63 = .ok (.iload_n 3, 1) := by decide +kernel
theorem dX9_sign_64 : decode cX9_sign 64 = .ok (.invokevirtual 185, 3) := by decide +kernel
theorem dX9_sign_67 : decode cX9_sign 67 = .ok (.iconst 0, 1) := by decide +kernel
theorem dX9_sign_68 : decode cX9_sign 68 = .ok (.istore 6, 2) := by decide +kernel
theorem dX9_sign_70 : decode cX9_sign 70 = .ok (.iload 6, 2) := by decide +kernel
theorem dX9_sign_72 : decode cX9_sign 72 = .ok (.iload 4, 2) := by decide +kernel
theorem dX9_sign_74 : decode cX9_sign 74 = .ok (.if_icmp .ge 16, 3) := by decide +kernel
theorem dX9_sign_77 : decode cX9_sign 77 = .ok (.aload_n 0, 1) := by decide +kernel
theorem dX9_sign_78 : decode cX9_sign 78 = .ok (.iload_n 1, 1) := by decide +kernel
theorem dX9_sign_79 : decode cX9_sign 79 = .ok (.iload_n 2, 1) := by decide +kernel
theorem dX9_sign_80 : decode cX9_sign 80 = .ok (.iload_n 3, 1) := by decide +kernel
theorem dX9_sign_81 : decode cX9_sign 81 = .ok (.invokevirtual 356, 3) := by decide +kernel
theorem dX9_sign_84 : decode cX9_sign 84 = .ok (.iinc 6 1, 3) := by decide +kernel
theorem dX9_sign_87 : decode cX9_sign 87 = .ok (.goto (-17), 3) := by decide +kernel
theorem dX9_sign_90 : decode cX9_sign 90 = .ok (.aload_n 0, 1) := by decide +kernel
theorem dX9_sign_91 : decode cX9_sign 91 = .ok (.getfield 11, 3) := by decide +kernel
theorem dX9_sign_94 : decode cX9_sign 94 = .ok (.iload 5, 2) := by decide +kernel
theorem dX9_sign_96 : decode cX9_sign 96 = .ok (.aaload, 1) := by decide +kernel
theorem dX9_sign_97 : decode cX9_sign 97 = .ok (.aload_n 0, 1) := by decide +kernel
theorem dX9_sign_98 : decode cX9_sign 98 = .ok (.getfield 46, 3) := by decide +kernel
theorem dX9_sign_101 : decode cX9_sign 101 = .ok (.getfield 208, 3) := by decide +kernel
theorem dX9_sign_104 : decode cX9_sign 104 = .ok (.aload_n 0, 1) := by decide +kernel
theorem dX9_sign_105 : decode cX9_sign 105 = .ok (.getfield 46, 3) := by decide +kernel
theorem dX9_sign_108 : decode cX9_sign 108 = .ok (.getfield 189, 3) := by decide +kernel
theorem dX9_sign_111 : decode cX9_sign 111 = .ok (.invokevirtual 209, 3) := by decide +kernel
theorem dX9_sign_114 : decode cX9_sign 114 = .ok (.aload_n 0, 1) := by decide +kernel
theorem dX9_sign_115 : decode cX9_sign 115 = .ok (.getfield 46, 3) := by decide +kernel
theorem dX9_sign_118 : decode cX9_sign 118 = .ok (.getfield 189, 3) := by decide +kernel
theorem dX9_sign_121 : decode cX9_sign 121 = .ok (.ireturn, 1) := by decide +kernel
theorem dX9_stranger_0 : decode cX9_stranger 0 = .ok (.aload_n 0, 1) := by decide +kernel
theorem dX9_stranger_1 : decode cX9_stranger 1 = .ok (.iload_n 1, 1) := by decide +kernel
theorem dX9_stranger_2 : decode cX9_stranger 2 = .ok (.invokevirtual 176, 3) := by decide +kernel
theorem dX9_stranger_5 : decode cX9_stranger 5 = .ok (.ifCond .eq 28, 3) := by decide +kernel
theorem dX9_stranger_8 : decode cX9_stranger 8 = .ok (.aload_n 0, 1) := by decide +kernel
theorem dX9_stranger_9 : decode cX9_stranger 9 = .ok (.iload_n 2, 1) := by decide +kernel
theorem dX9_stranger_10 : decode cX9_stranger 10 = .ok (.invokevirtual 176, 3) := by decide +kernel
theorem dX9_stranger_13 : decode cX9_stranger 13 = .ok (.ifCond .eq 20, 3) := by decide +kernel
theorem dX9_stranger_16 : decode cX9_stranger 16 = .ok (.aload_n 0, 1) := by decide +kernel
theorem dX9_stranger_17 : decode cX9_stranger 17 = .ok (.iload 4, 2) := by decide +kernel
theorem dX9_stranger_19 : decode cX9_stranger 19 = .ok (.invokevirtual 176, 3) := by decide +kernel
theorem dX9_stranger_22 : decode cX9_stranger 22 = .ok (.ifCond .eq 11, 3) := by decide +kernel
theorem dX9_stranger_25 : decode cX9_stranger 25 = .ok (.aload_n 0, 1) := by decide +kernel
theorem dX9_stranger_26 : decode cX9_stranger 26 = .ok (.iload_n 3, 1) := by decide +kernel
theorem dX9_stranger_27 : decode cX9_stranger 27 = .ok (.invokevirtual 165, 3) := by decide +kernel
theorem dX9_stranger_30 : decode cX9_stranger 30 = .ok (.ifCond .ne 5, 3) := by decide +kernel
theorem dX9_stranger_33 : decode cX9_stranger 33 = .ok (.iconst (-1), 1) := by decide +kernel
theorem dX9_stranger_34 : decode cX9_stranger 34 = .ok (.ireturn, 1) := by decide +kernel
theorem dX9_stranger_35 : decode cX9_stranger 35 = .ok (.iload_n 1, 1) := by decide +kernel
theorem dX9_stranger_36 : decode cX9_stranger 36 = .ok (.iload_n 2, 1) := by decide +kernel
theorem dX9_stranger_37 : decode cX9_stranger 37 = .ok (.if_icmp .eq 15, 3) := by decide +kernel
theorem dX9_stranger_40 : decode cX9_stranger 40 = .ok (.iload_n 1, 1) := by decide +kernel
theorem dX9_stranger_41 : decode cX9_stranger 41 = .ok (.iload 4, 2) := by decide +kernel
theorem dX9_stranger_43 : decode cX9_stranger 43 = .ok (.if_icmp .eq 9, 3) := by decide +kernel
theorem dX9_stranger_46 : decode cX9_stranger 46 = .ok (.iload_n 2, 1) := by decide +kernel
theorem dX9_stranger_47 : decode cX9_stranger 47 = .ok (.iload 4, 2) := by decide +kernel
theorem dX9_stranger_49 : decode cX9_stranger 49 = .ok (.if_icmp .ne 5, 3) := by decide +kernel
theorem dX9_stranger_52 : decode cX9_stranger 52 = .ok (.iconst (-1), 1) := by decide +kernel
theorem dX9_stranger_53 : decode cX9_stranger 53 = .ok (.ireturn, 1) := by decide +kernel
theorem dX9_stranger_54 : decode cX9_stranger 54 = .ok (.aload_n 0, 1) := by decide +kernel
theorem dX9_stranger_55 : decode cX9_stranger 55 = .ok (.getfield 46, 3) := by decide +kernel
theorem dX9_stranger_58 : decode cX9_stranger 58 = .ok (.aload_n 0, 1) := by decide +kernel
theorem dX9_stranger_59 : decode cX9_stranger 59 = .ok (.getfield 26, 3) := by decide +kernel
theorem dX9_stranger_62 : decode cX9_stranger 62 = .ok (.iload_n 1, 1) := by decide +kernel
theorem dX9_stranger_63 : decode cX9_stranger 63 = .ok (.aaload, 1) := by decide +kernel
theorem dX9_stranger_64 : decode cX9_stranger 64 = .ok (.iload_n 3, 1) := by decide +kernel
theorem dX9_stranger_65 : decode cX9_stranger 65 = .ok (.invokevirtual 185, 3) := by decide +kernel
theorem dX9_stranger_68 : decode cX9_stranger 68 = .ok (.iconst 0, 1) := by decide +kernel
theorem dX9_stranger_69 : decode cX9_stranger 69 = .ok (.istore 5, 2) := by decide +kernel
theorem dX9_stranger_71 : decode cX9_stranger 71 = .ok (.iload 5, 2) := by decide +kernel
theorem dX9_stranger_73 : decode cX9_stranger 73 = .ok (.bipush 9, 2) := by decide +kernel
theorem dX9_stranger_75 : decode cX9_stranger 75 = .ok (.if_icmp .gt 64, 3) := by decide +kernel
theorem dX9_stranger_78 : decode cX9_stranger 78 = .ok (.aload_n 0, 1) := by decide +kernel
theorem dX9_stranger_79 : decode cX9_stranger 79 = .ok (.getfield 53, 3) := by decide +kernel
theorem dX9_stranger_82 : decode cX9_stranger 82 = .ok (.aload_n 0, 1) := by decide +kernel
theorem dX9_stranger_83 : decode cX9_stranger 83 = .ok (.getfield 26, 3) := by decide +kernel
theorem dX9_stranger_86 : decode cX9_stranger 86 = .ok (.iload 4, 2) := by decide +kernel
theorem dX9_stranger_88 : decode cX9_stranger 88 = .ok (.aaload, 1) := by decide +kernel
theorem dX9_stranger_89 : decode cX9_stranger 89 = .ok (.aload_n 0, 1) := by decide +kernel
theorem dX9_stranger_90 : decode cX9_stranger 90 = .ok (.getfield 46, 3) := by decide +kernel
theorem dX9_stranger_93 : decode cX9_stranger 93 = .ok (.aconst_null, 1) := by decide +kernel
theorem dX9_stranger_94 : decode cX9_stranger 94 = .ok (.invokevirtual 225, 3) := by decide +kernel
theorem dX9_stranger_97 : decode cX9_stranger 97 = .ok (.aload_n 0, 1) := by decide +kernel
theorem dX9_stranger_98 : decode cX9_stranger 98 = .ok (.getfield 53, 3) := by decide +kernel
theorem dX9_stranger_101 : decode cX9_stranger 101 = .ok (.getfield 201, 3) := by decide +kernel
theorem dX9_stranger_104 : decode cX9_stranger 104 = .ok (.iload_n 3, 1) := by decide +kernel
theorem dX9_stranger_105 : decode cX9_stranger 105 = .ok (.if_icmp .eq 21, 3) := by decide +kernel
theorem dX9_stranger_108 : decode cX9_stranger 108 = .ok (.aload_n 0, 1) := by decide +kernel
theorem dX9_stranger_109 : decode cX9_stranger 109 = .ok (.getfield 39, 3) := by decide +kernel
theorem dX9_stranger_112 : decode cX9_stranger 112 = .ok (.aload_n 0, 1) := by decide +kernel
theorem dX9_stranger_113 : decode cX9_stranger 113 = .ok (.getfield 53, 3) := by decide +kernel
theorem dX9_stranger_116 : decode cX9_stranger 116 = .ok (.getfield 201, 3) := by decide +kernel
theorem dX9_stranger_119 : decode cX9_stranger 119 = .ok (.invokevirtual 104, 3) := by decide +kernel
theorem dX9_stranger_122 : decode cX9_stranger 122 = .ok (.pop, 1) := by decide +kernel
theorem dX9_stranger_123 : decode cX9_stranger 123 = .ok (.iload 5, 2) := by decide +kernel
theorem dX9_stranger_125 : decode cX9_stranger 125 = .ok (.ireturn, 1) := by decide +kernel
theorem dX9_stranger_126 : decode cX9_stranger 126 = .ok (.aload_n 0, 1) := by decide +kernel
theorem dX9_stranger_127 : decode cX9_stranger 127 = .ok (.iload_n 1, 1) := by decide +kernel
theorem dX9_stranger_128 : decode cX9_stranger 128 = .ok (.iload_n 2, 1) := by decide +kernel
theorem dX9_stranger_129 : decode cX9_stranger 129 = .ok (.iload_n 3, 1) := by decide +kernel
theorem dX9_stranger_130 : decode cX9_stranger 130 = .ok (.invokevirtual 356, 3) := by decide +kernel
theorem dX9_stranger_133 : decode cX9_stranger 133 = .ok (.iinc 5 1, 3) := by decide +kernel
theorem dX9_stranger_136 : decode cX9_stranger 136 = .ok (.goto (-65), 3) := by decide +kernel
theorem dX9_stranger_139 : decode cX9_stranger 139 = .ok (.bipush (-9), 2) := by decide +kernel
theorem dX9_stranger_141 : decode cX9_stranger 141 = .ok (.ireturn, 1) := by decide +kernel
theorem dX9_image_0 : decode cX9_image 0 = .ok (.iload_n 1, 1) := by decide +kernel
theorem dX9_image_1 : decode cX9_image 1 = .ok (.invokestatic 83, 3) := by decide +kernel
theorem dX9_image_4 : decode cX9_image 4 = .ok (.ifCond .ne 5, 3) := by decide +kernel
theorem dX9_image_7 : decode cX9_image 7 = .ok (.iconst (-1), 1) := by decide +kernel
theorem dX9_image_8 : decode cX9_image 8 = .ok (.ireturn, 1) := by decide +kernel
theorem dX9_image_9 : decode cX9_image 9 = .ok (.aload_n 0, 1) := by decide +kernel
theorem dX9_image_10 : decode cX9_image 10 = .ok (.getfield 11, 3) := by decide +kernel
theorem dX9_image_13 : decode cX9_image 13 = .ok (.iload_n 1, 1) := by decide +kernel
theorem dX9_image_14 : decode cX9_image 14 = .ok (.aaload, 1) := by decide +kernel
theorem dX9_image_15 : decode cX9_image 15 = .ok (.aload_n 0, 1) := by decide +kernel
theorem dX9_image_16 : decode cX9_image 16 = .ok (.getfield 150, 3) := by decide +kernel
theorem dX9_image_19 : decode cX9_image 19 = .ok (.iconst 0, 1) := by decide +kernel
theorem dX9_image_20 : decode cX9_image 20 = .ok (.invokevirtual 91, 3) := by decide +kernel
theorem dX9_image_23 : decode cX9_image 23 = .ok (.iconst 0, 1) := by decide +kernel
theorem dX9_image_24 : decode cX9_image 24 = .ok (.istore_n 2, 1) := by decide +kernel
theorem dX9_image_25 : decode cX9_image 25 = .ok (.iload_n 2, 1) := by decide +kernel
theorem dX9_image_26 : decode cX9_image 26 = .ok (.aload_n 0, 1) := by decide +kernel
theorem dX9_image_27 : decode cX9_image 27 = .ok (.getfield 150, 3) := by decide +kernel
theorem dX9_image_30 : decode cX9_image 30 = .ok (.if_icmp .ge 28, 3) := by decide +kernel
theorem dX9_image_33 : decode cX9_image 33 = .ok (.aload_n 0, 1) := by decide +kernel
theorem dX9_image_34 : decode cX9_image 34 = .ok (.getfield 11, 3) := by decide +kernel
theorem dX9_image_37 : decode cX9_image 37 = .ok (.iload_n 1, 1) := by decide +kernel
theorem dX9_image_38 : decode cX9_image 38 = .ok (.aaload, 1) := by decide +kernel
theorem dX9_image_39 : decode cX9_image 39 = .ok (.iload_n 2, 1) := by decide +kernel
theorem dX9_image_40 : decode cX9_image 40 = .ok (.aload_n 0, 1) := by decide +kernel
theorem dX9_image_41 : decode cX9_image 41 = .ok (.getfield 26, 3) := by decide +kernel
theorem dX9_image_44 : decode cX9_image 44 = .ok (.iload_n 2, 1) := by decide +kernel
theorem dX9_image_45 : decode cX9_image 45 = .ok (.aaload, 1) := by decide +kernel
theorem dX9_image_46 : decode cX9_image 46 = .ok (.invokevirtual 360, 3) := by decide +kernel
theorem dX9_image_49 : decode cX9_image 49 = .ok (.invokevirtual 101, 3) := by decide +kernel
theorem dX9_image_52 : decode cX9_image 52 = .ok (.iinc 2 1, 3) := by decide +kernel
theorem dX9_image_55 : decode cX9_image 55 = .ok (.goto (-30), 3) := by decide +kernel
theorem dX9_image_58 : decode cX9_image 58 = .ok (.aload_n 0, 1) := by decide +kernel
theorem dX9_image_59 : decode cX9_image 59 = .ok (.getfield 150, 3) := by decide +kernel
theorem dX9_image_62 : decode cX9_image 62 = .ok (.ireturn, 1) := by decide +kernel
theorem dX9_on_0 : decode cX9_on 0 = .ok (.iload_n 1, 1) := by decide +kernel
theorem dX9_on_1 : decode cX9_on 1 = .ok (.invokestatic 83, 3) := by decide +kernel
theorem dX9_on_4 : decode cX9_on 4 = .ok (.ifCond .ne 5, 3) := by decide +kernel
theorem dX9_on_7 : decode cX9_on 7 = .ok (.iconst (-1), 1) := by decide +kernel
theorem dX9_on_8 : decode cX9_on 8 = .ok (.ireturn, 1) := by decide +kernel
theorem dX9_on_9 : decode cX9_on 9 = .ok (.aload_n 0, 1) := by decide +kernel
theorem dX9_on_10 : decode cX9_on 10 = .ok (.aload_n 0, 1) := by decide +kernel
theorem dX9_on_11 : decode cX9_on 11 = .ok (.getfield 11, 3) := by decide +kernel
theorem dX9_on_14 : decode cX9_on 14 = .ok (.iload_n 1, 1) := by decide +kernel
theorem dX9_on_15 : decode cX9_on 15 = .ok (.aaload, 1) := by decide +kernel
theorem dX9_on_16 : decode cX9_on 16 = .ok (.invokevirtual 363, 3) := by decide +kernel
theorem dX9_on_19 : decode cX9_on 19 = .ok (.istore_n 2, 1) := by decide +kernel
theorem dX9_on_20 : decode cX9_on 20 = .ok (.iload_n 2, 1) := by decide +kernel
theorem dX9_on_21 : decode cX9_on 21 = .ok (.ifCond .eq 12, 3) := by decide +kernel
theorem dX9_on_24 : decode cX9_on 24 = .ok (.aload_n 0, 1) := by decide +kernel
theorem dX9_on_25 : decode cX9_on 25 = .ok (.getfield 39, 3) := by decide +kernel
theorem dX9_on_28 : decode cX9_on 28 = .ok (.iload_n 2, 1) := by decide +kernel
theorem dX9_on_29 : decode cX9_on 29 = .ok (.invokevirtual 87, 3) := by decide +kernel
theorem dX9_on_32 : decode cX9_on 32 = .ok (.ireturn, 1) := by decide +kernel
theorem dX9_on_33 : decode cX9_on 33 = .ok (.aload_n 0, 1) := by decide +kernel
theorem dX9_on_34 : decode cX9_on 34 = .ok (.aload_n 0, 1) := by decide +kernel
theorem dX9_on_35 : decode cX9_on 35 = .ok (.getfield 11, 3) := by decide +kernel
theorem dX9_on_38 : decode cX9_on 38 = .ok (.iload_n 1, 1) := by decide +kernel
theorem dX9_on_39 : decode cX9_on 39 = .ok (.aaload, 1) := by decide +kernel
theorem dX9_on_40 : decode cX9_on 40 = .ok (.getfield 128, 3) := by decide +kernel
theorem dX9_on_43 : decode cX9_on 43 = .ok (.bipush 8, 2) := by decide +kernel
theorem dX9_on_45 : decode cX9_on 45 = .ok (.invokestatic 366, 3) := by decide +kernel
theorem dX9_on_48 : decode cX9_on 48 = .ok (.putfield 150, 3) := by decide +kernel
theorem dX9_on_51 : decode cX9_on 51 = .ok (.aload_n 0, 1) := by decide +kernel
theorem dX9_on_52 : decode cX9_on 52 = .ok (.iconst 0, 1) := by decide +kernel
theorem dX9_on_53 : decode cX9_on 53 = .ok (.putfield 153, 3) := by decide +kernel
theorem dX9_on_56 : decode cX9_on 56 = .ok (.iconst 0, 1) := by decide +kernel
theorem dX9_on_57 : decode cX9_on 57 = .ok (.istore_n 3, 1) := by decide +kernel
theorem dX9_on_58 : decode cX9_on 58 = .ok (.iload_n 3, 1) := by decide +kernel
theorem dX9_on_59 : decode cX9_on 59 = .ok (.aload_n 0, 1) := by decide +kernel
theorem dX9_on_60 : decode cX9_on 60 = .ok (.getfield 150, 3) := by decide +kernel
theorem dX9_on_63 : decode cX9_on 63 = .ok (.if_icmp .ge 53, 3) := by decide +kernel
theorem dX9_on_66 : decode cX9_on 66 = .ok (.aload_n 0, 1) := by decide +kernel
theorem dX9_on_67 : decode cX9_on 67 = .ok (.getfield 11, 3) := by decide +kernel
theorem dX9_on_70 : decode cX9_on 70 = .ok (.iload_n 1, 1) := by decide +kernel
theorem dX9_on_71 : decode cX9_on 71 = .ok (.aaload, 1) := by decide +kernel
theorem dX9_on_72 : decode cX9_on 72 = .ok (.iload_n 3, 1) := by decide +kernel
theorem dX9_on_73 : decode cX9_on 73 = .ok (.invokevirtual 98, 3) := by decide +kernel
theorem dX9_on_76 : decode cX9_on 76 = .ok (.istore 4, 2) := by decide +kernel
theorem dX9_on_78 : decode cX9_on 78 = .ok (.aload_n 0, 1) := by decide +kernel
theorem dX9_on_79 : decode cX9_on 79 = .ok (.iload_n 3, 1) := by decide +kernel
theorem dX9_on_80 : decode cX9_on 80 = .ok (.iload 4, 2) := by decide +kernel
theorem dX9_on_82 : decode cX9_on 82 = .ok (.sipush 1000, 3) := by decide +kernel
theorem dX9_on_85 : decode cX9_on 85 = .ok (.idiv, 1) := by decide +kernel
theorem dX9_on_86 : decode cX9_on 86 = .ok (.iload 4, 2) := by decide +kernel
theorem dX9_on_88 : decode cX9_on 88 = .ok (.bipush 100, 2) := by decide +kernel
theorem dX9_on_90 : decode cX9_on 90 = .ok (.idiv, 1) := by decide +kernel
theorem dX9_on_91 : decode cX9_on 91 = .ok (.bipush 10, 2) := by decide +kernel
theorem dX9_on_93 : decode cX9_on 93 = .ok (.irem, 1) := by decide +kernel
theorem dX9_on_94 : decode cX9_on 94 = .ok (.iload 4, 2) := by decide +kernel
theorem dX9_on_96 : decode cX9_on 96 = .ok (.bipush 10, 2) := by decide +kernel
theorem dX9_on_98 : decode cX9_on 98 = .ok (.idiv, 1) := by decide +kernel
theorem dX9_on_99 : decode cX9_on 99 = .ok (.bipush 10, 2) := by decide +kernel
theorem dX9_on_101 : decode cX9_on 101 = .ok (.irem, 1) := by decide +kernel
theorem dX9_on_102 : decode cX9_on 102 = .ok (.iload 4, 2) := by decide +kernel
theorem dX9_on_104 : decode cX9_on 104 = .ok (.bipush 10, 2) := by decide +kernel
theorem dX9_on_106 : decode cX9_on 106 = .ok (.irem, 1) := by decide +kernel
theorem dX9_on_107 : decode cX9_on 107 = .ok (.invokevirtual 172, 3) := by decide +kernel
theorem dX9_on_110 : decode cX9_on 110 = .ok (.iinc 3 1, 3) := by decide +kernel
theorem dX9_on_113 : decode cX9_on 113 = .ok (.goto (-55), 3) := by decide +kernel
theorem dX9_on_116 : decode cX9_on 116 = .ok (.aload_n 0, 1) := by decide +kernel
theorem dX9_on_117 : decode cX9_on 117 = .ok (.getfield 150, 3) := by decide +kernel
theorem dX9_on_120 : decode cX9_on 120 = .ok (.ireturn, 1) := by decide +kernel
theorem dX9_asked_0 : decode cX9_asked 0 = .ok (.aload_n 0, 1) := by decide +kernel
theorem dX9_asked_1 : decode cX9_asked 1 = .ok (.getfield 39, 3) := by decide +kernel
theorem dX9_asked_4 : decode cX9_asked 4 = .ok (.getfield 371, 3) := by decide +kernel
theorem dX9_asked_7 : decode cX9_asked 7 = .ok (.ireturn, 1) := by decide +kernel
theorem dX9_upper_0 : decode cX9_upper 0 = .ok (.aload_n 0, 1) := by decide +kernel
theorem dX9_upper_1 : decode cX9_upper 1 = .ok (.getfield 39, 3) := by decide +kernel
theorem dX9_upper_4 : decode cX9_upper 4 = .ok (.getfield 374, 3) := by decide +kernel
theorem dX9_upper_7 : decode cX9_upper 7 = .ok (.lreturn, 1) := by decide +kernel
theorem dX9_lower_0 : decode cX9_lower 0 = .ok (.aload_n 0, 1) := by decide +kernel
theorem dX9_lower_1 : decode cX9_lower 1 = .ok (.getfield 39, 3) := by decide +kernel
theorem dX9_lower_4 : decode cX9_lower 4 = .ok (.getfield 377, 3) := by decide +kernel
theorem dX9_lower_7 : decode cX9_lower 7 = .ok (.lreturn, 1) := by decide +kernel
theorem dX9_count_0 : decode cX9_count 0 = .ok (.iload_n 1, 1) := by decide +kernel
theorem dX9_count_1 : decode cX9_count 1 = .ok (.tableswitch 121 0 7 #[47, 57, 85, 90, 95, 100, 105, 113], 47) := by decide +kernel
theorem dX9_count_48 : decode cX9_count 48 = .ok (.aload_n 0, 1) := by decide +kernel
theorem dX9_count_49 : decode cX9_count 49 = .ok (.getfield 20, 3) := by decide +kernel
theorem dX9_count_52 : decode cX9_count 52 = .ok (.iconst 0, 1) := by decide +kernel
theorem dX9_count_53 : decode cX9_count 53 = .ok (.aaload, 1) := by decide +kernel
theorem dX9_count_54 : decode cX9_count 54 = .ok (.getfield 156, 3) := by decide +kernel
theorem dX9_count_57 : decode cX9_count 57 = .ok (.ireturn, 1) := by decide +kernel
theorem dX9_count_58 : decode cX9_count 58 = .ok (.aload_n 0, 1) := by decide +kernel
theorem dX9_count_59 : decode cX9_count 59 = .ok (.iconst 0, 1) := by decide +kernel
theorem dX9_count_60 : decode cX9_count 60 = .ok (.invokevirtual 162, 3) := by decide +kernel
theorem dX9_count_63 : decode cX9_count 63 = .ok (.ifCond .eq 7, 3) := by decide +kernel
theorem dX9_count_66 : decode cX9_count 66 = .ok (.iconst 1, 1) := by decide +kernel
theorem dX9_count_67 : decode cX9_count 67 = .ok (.goto 4, 3) := by decide +kernel
theorem dX9_count_70 : decode cX9_count 70 = .ok (.iconst 0, 1) := by decide +kernel
theorem dX9_count_71 : decode cX9_count 71 = .ok (.aload_n 0, 1) := by decide +kernel
theorem dX9_count_72 : decode cX9_count 72 = .ok (.iconst 1, 1) := by decide +kernel
theorem dX9_count_73 : decode cX9_count 73 = .ok (.invokevirtual 162, 3) := by decide +kernel
theorem dX9_count_76 : decode cX9_count 76 = .ok (.ifCond .eq 7, 3) := by decide +kernel
theorem dX9_count_79 : decode cX9_count 79 = .ok (.iconst 1, 1) := by decide +kernel
theorem dX9_count_80 : decode cX9_count 80 = .ok (.goto 4, 3) := by decide +kernel
theorem dX9_count_83 : decode cX9_count 83 = .ok (.iconst 0, 1) := by decide +kernel
theorem dX9_count_84 : decode cX9_count 84 = .ok (.iadd, 1) := by decide +kernel
theorem dX9_count_85 : decode cX9_count 85 = .ok (.ireturn, 1) := by decide +kernel
theorem dX9_count_86 : decode cX9_count 86 = .ok (.aload_n 0, 1) := by decide +kernel
theorem dX9_count_87 : decode cX9_count 87 = .ok (.getfield 150, 3) := by decide +kernel
theorem dX9_count_90 : decode cX9_count 90 = .ok (.ireturn, 1) := by decide +kernel
theorem dX9_count_91 : decode cX9_count 91 = .ok (.aload_n 0, 1) := by decide +kernel
theorem dX9_count_92 : decode cX9_count 92 = .ok (.invokevirtual 380, 3) := by decide +kernel
theorem dX9_count_95 : decode cX9_count 95 = .ok (.ireturn, 1) := by decide +kernel
theorem dX9_count_96 : decode cX9_count 96 = .ok (.aload_n 0, 1) := by decide +kernel
theorem dX9_count_97 : decode cX9_count 97 = .ok (.getfield 153, 3) := by decide +kernel
theorem dX9_count_100 : decode cX9_count 100 = .ok (.ireturn, 1) := by decide +kernel
theorem dX9_count_101 : decode cX9_count 101 = .ok (.aload_n 0, 1) := by decide +kernel
theorem dX9_count_102 : decode cX9_count 102 = .ok (.invokevirtual 347, 3) := by decide +kernel
theorem dX9_count_105 : decode cX9_count 105 = .ok (.ireturn, 1) := by decide +kernel
theorem dX9_count_106 : decode cX9_count 106 = .ok (.aload_n 0, 1) := by decide +kernel
theorem dX9_count_107 : decode cX9_count 107 = .ok (.getfield 11, 3) := by decide +kernel
theorem dX9_count_110 : decode cX9_count 110 = .ok (.invokestatic 383, 3) := by decide +kernel
theorem dX9_count_113 : decode cX9_count 113 = .ok (.ireturn, 1) := by decide +kernel
theorem dX9_count_114 : decode cX9_count 114 = .ok (.aload_n 0, 1) := by decide +kernel
theorem dX9_count_115 : decode cX9_count 115 = .ok (.getfield 15, 3) := by decide +kernel
theorem dX9_count_118 : decode cX9_count 118 = .ok (.invokestatic 383, 3) := by decide +kernel
theorem dX9_count_121 : decode cX9_count 121 = .ok (.ireturn, 1) := by decide +kernel
theorem dX9_count_122 : decode cX9_count 122 = .ok (.iconst (-1), 1) := by decide +kernel
theorem dX9_count_123 : decode cX9_count 123 = .ok (.ireturn, 1) := by decide +kernel
theorem dX9_finding_0 : decode cX9_finding 0 = .ok (.aload_n 0, 1) := by decide +kernel
theorem dX9_finding_1 : decode cX9_finding 1 = .ok (.getfield 39, 3) := by decide +kernel
theorem dX9_finding_4 : decode cX9_finding 4 = .ok (.getfield 387, 3) := by decide +kernel
theorem dX9_finding_7 : decode cX9_finding 7 = .ok (.ireturn, 1) := by decide +kernel
theorem dX9_findings_0 : decode cX9_findings 0 = .ok (.iload_n 1, 1) := by decide +kernel
theorem dX9_findings_1 : decode cX9_findings 1 = .ok (.iconst 1, 1) := by decide +kernel
theorem dX9_findings_2 : decode cX9_findings 2 = .ok (.if_icmp .lt 20, 3) := by decide +kernel
theorem dX9_findings_5 : decode cX9_findings 5 = .ok (.iload_n 1, 1) := by decide +kernel
theorem dX9_findings_6 : decode cX9_findings 6 = .ok (.iconst 5, 1) := by decide +kernel
theorem dX9_findings_7 : decode cX9_findings 7 = .ok (.if_icmp .gt 15, 3) := by decide +kernel
theorem dX9_findings_10 : decode cX9_findings 10 = .ok (.aload_n 0, 1) := by decide +kernel
theorem dX9_findings_11 : decode cX9_findings 11 = .ok (.getfield 39, 3) := by decide +kernel
theorem dX9_findings_14 : decode cX9_findings 14 = .ok (.getfield 390, 3) := by decide +kernel
theorem dX9_findings_17 : decode cX9_findings 17 = .ok (.iload_n 1, 1) := by decide +kernel
theorem dX9_findings_18 : decode cX9_findings 18 = .ok (.iaload, 1) := by decide +kernel
theorem dX9_findings_19 : decode cX9_findings 19 = .ok (.goto 4, 3) := by decide +kernel
theorem dX9_findings_22 : decode cX9_findings 22 = .ok (.iconst (-1), 1) := by decide +kernel
theorem dX9_findings_23 : decode cX9_findings 23 = .ok (.ireturn, 1) := by decide +kernel
theorem dX9_digest_0 : decode cX9_digest 0 = .ok (.ldc2_w 393, 3) := by decide +kernel
theorem dX9_digest_3 : decode cX9_digest 3 = .ok (.lstore_n 1, 1) := by decide +kernel
theorem dX9_digest_4 : decode cX9_digest 4 = .ok (.iconst 0, 1) := by decide +kernel
theorem dX9_digest_5 : decode cX9_digest 5 = .ok (.istore_n 3, 1) := by decide +kernel
theorem dX9_digest_6 : decode cX9_digest 6 = .ok (.iload_n 3, 1) := by decide +kernel
theorem dX9_digest_7 : decode cX9_digest 7 = .ok (.bipush 8, 2) := by decide +kernel
theorem dX9_digest_9 : decode cX9_digest 9 = .ok (.if_icmp .ge 22, 3) := by decide +kernel
theorem dX9_digest_12 : decode cX9_digest 12 = .ok (.ldc2_w 395, 3) := by decide +kernel
theorem dX9_digest_15 : decode cX9_digest 15 = .ok (.lload_n 1, 1) := by decide +kernel
theorem dX9_digest_16 : decode cX9_digest 16 = .ok (.lmul, 1) := by decide +kernel
theorem dX9_digest_17 : decode cX9_digest 17 = .ok (.aload_n 0, 1) := by decide +kernel
theorem dX9_digest_18 : decode cX9_digest 18 = .ok (.iload_n 3, 1) := by decide +kernel
theorem dX9_digest_19 : decode cX9_digest 19 = .ok (.invokevirtual 397, 3) := by decide +kernel
theorem dX9_digest_22 : decode cX9_digest 22 = .ok (.i2l, 1) := by decide +kernel
theorem dX9_digest_23 : decode cX9_digest 23 = .ok (.ladd, 1) := by decide +kernel
theorem dX9_digest_24 : decode cX9_digest 24 = .ok (.lstore_n 1, 1) := by decide +kernel
theorem dX9_digest_25 : decode cX9_digest 25 = .ok (.iinc 3 1, 3) := by decide +kernel
theorem dX9_digest_28 : decode cX9_digest 28 = .ok (.goto (-22), 3) := by decide +kernel
theorem dX9_digest_31 : decode cX9_digest 31 = .ok (.iconst 0, 1) := by decide +kernel
theorem dX9_digest_32 : decode cX9_digest 32 = .ok (.istore_n 3, 1) := by decide +kernel
theorem dX9_digest_33 : decode cX9_digest 33 = .ok (.iload_n 3, 1) := by decide +kernel
theorem dX9_digest_34 : decode cX9_digest 34 = .ok (.iconst 2, 1) := by decide +kernel
theorem dX9_digest_35 : decode cX9_digest 35 = .ok (.if_icmp .ge 20, 3) := by decide +kernel
theorem dX9_digest_38 : decode cX9_digest 38 = .ok (.aload_n 0, 1) := by decide +kernel
theorem dX9_digest_39 : decode cX9_digest 39 = .ok (.getfield 20, 3) := by decide +kernel
theorem dX9_digest_42 : decode cX9_digest 42 = .ok (.iload_n 3, 1) := by decide +kernel
theorem dX9_digest_43 : decode cX9_digest 43 = .ok (.aaload, 1) := by decide +kernel
theorem dX9_digest_44 : decode cX9_digest 44 = .ok (.lload_n 1, 1) := by decide +kernel
theorem dX9_digest_45 : decode cX9_digest 45 = .ok (.invokevirtual 400, 3) := by decide +kernel
theorem dX9_digest_48 : decode cX9_digest 48 = .ok (.lstore_n 1, 1) := by decide +kernel
theorem dX9_digest_49 : decode cX9_digest 49 = .ok (.iinc 3 1, 3) := by decide +kernel
theorem dX9_digest_52 : decode cX9_digest 52 = .ok (.goto (-19), 3) := by decide +kernel
theorem dX9_digest_55 : decode cX9_digest 55 = .ok (.iconst 0, 1) := by decide +kernel
theorem dX9_digest_56 : decode cX9_digest 56 = .ok (.istore_n 3, 1) := by decide +kernel
theorem dX9_digest_57 : decode cX9_digest 57 = .ok (.iload_n 3, 1) := by decide +kernel
theorem dX9_digest_58 : decode cX9_digest 58 = .ok (.aload_n 0, 1) := by decide +kernel
theorem dX9_digest_59 : decode cX9_digest 59 = .ok (.getfield 150, 3) := by decide +kernel
theorem dX9_digest_62 : decode cX9_digest 62 = .ok (.if_icmp .ge 43, 3) := by decide +kernel
theorem dX9_digest_65 : decode cX9_digest 65 = .ok (.iconst 0, 1) := by decide +kernel
theorem dX9_digest_66 : decode cX9_digest 66 = .ok (.istore 4, 2) := by decide +kernel
theorem dX9_digest_68 : decode cX9_digest 68 = .ok (.iload 4, 2) := by decide +kernel
theorem dX9_digest_70 : decode cX9_digest 70 = .ok (.iconst 4, 1) := by decide +kernel
theorem dX9_digest_71 : decode cX9_digest 71 = .ok (.if_icmp .ge 28, 3) := by decide +kernel
theorem dX9_digest_74 : decode cX9_digest 74 = .ok (.ldc2_w 395, 3) := by decide +kernel
theorem dX9_digest_77 : decode cX9_digest 77 = .ok (.lload_n 1, 1) := by decide +kernel
theorem dX9_digest_78 : decode cX9_digest 78 = .ok (.lmul, 1) := by decide +kernel
theorem dX9_digest_79 : decode cX9_digest 79 = .ok (.aload_n 0, 1) := by decide +kernel
theorem dX9_digest_80 : decode cX9_digest 80 = .ok (.getfield 26, 3) := by decide +kernel
theorem dX9_digest_83 : decode cX9_digest 83 = .ok (.iload_n 3, 1) := by decide +kernel
theorem dX9_digest_84 : decode cX9_digest 84 = .ok (.aaload, 1) := by decide +kernel
theorem dX9_digest_85 : decode cX9_digest 85 = .ok (.iload 4, 2) := by decide +kernel
theorem dX9_digest_87 : decode cX9_digest 87 = .ok (.invokevirtual 179, 3) := by decide +kernel
theorem dX9_digest_90 : decode cX9_digest 90 = .ok (.i2l, 1) := by decide +kernel
theorem dX9_digest_91 : decode cX9_digest 91 = .ok (.ladd, 1) := by decide +kernel
theorem dX9_digest_92 : decode cX9_digest 92 = .ok (.lstore_n 1, 1) := by decide +kernel
theorem dX9_digest_93 : decode cX9_digest 93 = .ok (.iinc 4 1, 3) := by decide +kernel
theorem dX9_digest_96 : decode cX9_digest 96 = .ok (.goto (-28), 3) := by decide +kernel
theorem dX9_digest_99 : decode cX9_digest 99 = .ok (.iinc 3 1, 3) := by decide +kernel
theorem dX9_digest_102 : decode cX9_digest 102 = .ok (.goto (-45), 3) := by decide +kernel
theorem dX9_digest_105 : decode cX9_digest 105 = .ok (.iconst 0, 1) := by decide +kernel
theorem dX9_digest_106 : decode cX9_digest 106 = .ok (.istore_n 3, 1) := by decide +kernel
theorem dX9_digest_107 : decode cX9_digest 107 = .ok (.iload_n 3, 1) := by decide +kernel
theorem dX9_digest_108 : decode cX9_digest 108 = .ok (.aload_n 0, 1) := by decide +kernel
theorem dX9_digest_109 : decode cX9_digest 109 = .ok (.getfield 153, 3) := by decide +kernel
theorem dX9_digest_112 : decode cX9_digest 112 = .ok (.if_icmp .ge 43, 3) := by decide +kernel
theorem dX9_digest_115 : decode cX9_digest 115 = .ok (.iconst 0, 1) := by decide +kernel
theorem dX9_digest_116 : decode cX9_digest 116 = .ok (.istore 4, 2) := by decide +kernel
theorem dX9_digest_118 : decode cX9_digest 118 = .ok (.iload 4, 2) := by decide +kernel
theorem dX9_digest_120 : decode cX9_digest 120 = .ok (.iconst 5, 1) := by decide +kernel
theorem dX9_digest_121 : decode cX9_digest 121 = .ok (.if_icmp .ge 28, 3) := by decide +kernel
theorem dX9_digest_124 : decode cX9_digest 124 = .ok (.ldc2_w 395, 3) := by decide +kernel
theorem dX9_digest_127 : decode cX9_digest 127 = .ok (.lload_n 1, 1) := by decide +kernel
theorem dX9_digest_128 : decode cX9_digest 128 = .ok (.lmul, 1) := by decide +kernel
theorem dX9_digest_129 : decode cX9_digest 129 = .ok (.aload_n 0, 1) := by decide +kernel
theorem dX9_digest_130 : decode cX9_digest 130 = .ok (.getfield 32, 3) := by decide +kernel
theorem dX9_digest_133 : decode cX9_digest 133 = .ok (.iload_n 3, 1) := by decide +kernel
theorem dX9_digest_134 : decode cX9_digest 134 = .ok (.aaload, 1) := by decide +kernel
theorem dX9_digest_135 : decode cX9_digest 135 = .ok (.iload 4, 2) := by decide +kernel
theorem dX9_digest_137 : decode cX9_digest 137 = .ok (.invokevirtual 326, 3) := by decide +kernel
theorem dX9_digest_140 : decode cX9_digest 140 = .ok (.i2l, 1) := by decide +kernel
theorem dX9_digest_141 : decode cX9_digest 141 = .ok (.ladd, 1) := by decide +kernel
theorem dX9_digest_142 : decode cX9_digest 142 = .ok (.lstore_n 1, 1) := by decide +kernel
theorem dX9_digest_143 : decode cX9_digest 143 = .ok (.iinc 4 1, 3) := by decide +kernel
theorem dX9_digest_146 : decode cX9_digest 146 = .ok (.goto (-28), 3) := by decide +kernel
theorem dX9_digest_149 : decode cX9_digest 149 = .ok (.iinc 3 1, 3) := by decide +kernel
theorem dX9_digest_152 : decode cX9_digest 152 = .ok (.goto (-45), 3) := by decide +kernel
theorem dX9_digest_155 : decode cX9_digest 155 = .ok (.iconst 0, 1) := by decide +kernel
theorem dX9_digest_156 : decode cX9_digest 156 = .ok (.istore_n 3, 1) := by decide +kernel
theorem dX9_digest_157 : decode cX9_digest 157 = .ok (.iload_n 3, 1) := by decide +kernel
theorem dX9_digest_158 : decode cX9_digest 158 = .ok (.bipush 6, 2) := by decide +kernel
theorem dX9_digest_160 : decode cX9_digest 160 = .ok (.if_icmp .ge 20, 3) := by decide +kernel
theorem dX9_digest_163 : decode cX9_digest 163 = .ok (.aload_n 0, 1) := by decide +kernel
theorem dX9_digest_164 : decode cX9_digest 164 = .ok (.getfield 11, 3) := by decide +kernel
theorem dX9_digest_167 : decode cX9_digest 167 = .ok (.iload_n 3, 1) := by decide +kernel
theorem dX9_digest_168 : decode cX9_digest 168 = .ok (.aaload, 1) := by decide +kernel
theorem dX9_digest_169 : decode cX9_digest 169 = .ok (.lload_n 1, 1) := by decide +kernel
theorem dX9_digest_170 : decode cX9_digest 170 = .ok (.invokevirtual 404, 3) := by decide +kernel
theorem dX9_digest_173 : decode cX9_digest 173 = .ok (.lstore_n 1, 1) := by decide +kernel
theorem dX9_digest_174 : decode cX9_digest 174 = .ok (.iinc 3 1, 3) := by decide +kernel
theorem dX9_digest_177 : decode cX9_digest 177 = .ok (.goto (-20), 3) := by decide +kernel
theorem dX9_digest_180 : decode cX9_digest 180 = .ok (.iconst 0, 1) := by decide +kernel
theorem dX9_digest_181 : decode cX9_digest 181 = .ok (.istore_n 3, 1) := by decide +kernel
theorem dX9_digest_182 : decode cX9_digest 182 = .ok (.iload_n 3, 1) := by decide +kernel
theorem dX9_digest_183 : decode cX9_digest 183 = .ok (.iconst 4, 1) := by decide +kernel
theorem dX9_digest_184 : decode cX9_digest 184 = .ok (.if_icmp .ge 20, 3) := by decide +kernel
theorem dX9_digest_187 : decode cX9_digest 187 = .ok (.aload_n 0, 1) := by decide +kernel
theorem dX9_digest_188 : decode cX9_digest 188 = .ok (.getfield 15, 3) := by decide +kernel
theorem dX9_digest_191 : decode cX9_digest 191 = .ok (.iload_n 3, 1) := by decide +kernel
theorem dX9_digest_192 : decode cX9_digest 192 = .ok (.aaload, 1) := by decide +kernel
theorem dX9_digest_193 : decode cX9_digest 193 = .ok (.lload_n 1, 1) := by decide +kernel
theorem dX9_digest_194 : decode cX9_digest 194 = .ok (.invokevirtual 404, 3) := by decide +kernel
theorem dX9_digest_197 : decode cX9_digest 197 = .ok (.lstore_n 1, 1) := by decide +kernel
theorem dX9_digest_198 : decode cX9_digest 198 = .ok (.iinc 3 1, 3) := by decide +kernel
theorem dX9_digest_201 : decode cX9_digest 201 = .ok (.goto (-19), 3) := by decide +kernel
theorem dX9_digest_204 : decode cX9_digest 204 = .ok (.lload_n 1, 1) := by decide +kernel
theorem dX9_digest_205 : decode cX9_digest 205 = .ok (.lreturn, 1) := by decide +kernel
theorem dX9_isRow_0 : decode cX9_isRow 0 = .ok (.iload_n 0, 1) := by decide +kernel
theorem dX9_isRow_1 : decode cX9_isRow 1 = .ok (.ifCond .lt 13, 3) := by decide +kernel
theorem dX9_isRow_4 : decode cX9_isRow 4 = .ok (.iload_n 0, 1) := by decide +kernel
theorem dX9_isRow_5 : decode cX9_isRow 5 = .ok (.bipush 6, 2) := by decide +kernel
theorem dX9_isRow_7 : decode cX9_isRow 7 = .ok (.if_icmp .ge 7, 3) := by decide +kernel
theorem dX9_isRow_10 : decode cX9_isRow 10 = .ok (.iconst 1, 1) := by decide +kernel
theorem dX9_isRow_11 : decode cX9_isRow 11 = .ok (.goto 4, 3) := by decide +kernel
theorem dX9_isRow_14 : decode cX9_isRow 14 = .ok (.iconst 0, 1) := by decide +kernel
theorem dX9_isRow_15 : decode cX9_isRow 15 = .ok (.ireturn, 1) := by decide +kernel
theorem dX9_isText_0 : decode cX9_isText 0 = .ok (.iload_n 0, 1) := by decide +kernel
theorem dX9_isText_1 : decode cX9_isText 1 = .ok (.ifCond .lt 12, 3) := by decide +kernel
theorem dX9_isText_4 : decode cX9_isText 4 = .ok (.iload_n 0, 1) := by decide +kernel
theorem dX9_isText_5 : decode cX9_isText 5 = .ok (.iconst 4, 1) := by decide +kernel
theorem dX9_isText_6 : decode cX9_isText 6 = .ok (.if_icmp .ge 7, 3) := by decide +kernel
theorem dX9_isText_9 : decode cX9_isText 9 = .ok (.iconst 1, 1) := by decide +kernel
theorem dX9_isText_10 : decode cX9_isText 10 = .ok (.goto 4, 3) := by decide +kernel
theorem dX9_isText_13 : decode cX9_isText 13 = .ok (.iconst 0, 1) := by decide +kernel
theorem dX9_isText_14 : decode cX9_isText 14 = .ok (.ireturn, 1) := by decide +kernel
theorem dX9_isLand_0 : decode cX9_isLand 0 = .ok (.iload_n 0, 1) := by decide +kernel
theorem dX9_isLand_1 : decode cX9_isLand 1 = .ok (.ifCond .lt 12, 3) := by decide +kernel
theorem dX9_isLand_4 : decode cX9_isLand 4 = .ok (.iload_n 0, 1) := by decide +kernel
theorem dX9_isLand_5 : decode cX9_isLand 5 = .ok (.iconst 2, 1) := by decide +kernel
theorem dX9_isLand_6 : decode cX9_isLand 6 = .ok (.if_icmp .ge 7, 3) := by decide +kernel
theorem dX9_isLand_9 : decode cX9_isLand 9 = .ok (.iconst 1, 1) := by decide +kernel
theorem dX9_isLand_10 : decode cX9_isLand 10 = .ok (.goto 4, 3) := by decide +kernel
theorem dX9_isLand_13 : decode cX9_isLand 13 = .ok (.iconst 0, 1) := by decide +kernel
theorem dX9_isLand_14 : decode cX9_isLand 14 = .ok (.ireturn, 1) := by decide +kernel
theorem dX9_isEverWord_0 : decode cX9_isEverWord 0 = .ok (.iload_n 0, 1) := by decide +kernel
theorem dX9_isEverWord_1 : decode cX9_isEverWord 1 = .ok (.ifCond .lt 13, 3) := by decide +kernel
theorem dX9_isEverWord_4 : decode cX9_isEverWord 4 = .ok (.iload_n 0, 1) := by decide +kernel
theorem dX9_isEverWord_5 : decode cX9_isEverWord 5 = .ok (.bipush 8, 2) := by decide +kernel
theorem dX9_isEverWord_7 : decode cX9_isEverWord 7 = .ok (.if_icmp .ge 7, 3) := by decide +kernel
theorem dX9_isEverWord_10 : decode cX9_isEverWord 10 = .ok (.iconst 1, 1) := by decide +kernel
theorem dX9_isEverWord_11 : decode cX9_isEverWord 11 = .ok (.goto 4, 3) := by decide +kernel
theorem dX9_isEverWord_14 : decode cX9_isEverWord 14 = .ok (.iconst 0, 1) := by decide +kernel
theorem dX9_isEverWord_15 : decode cX9_isEverWord 15 = .ok (.ireturn, 1) := by decide +kernel
theorem dX9_isWord_0 : decode cX9_isWord 0 = .ok (.iload_n 1, 1) := by decide +kernel
theorem dX9_isWord_1 : decode cX9_isWord 1 = .ok (.ifCond .lt 20, 3) := by decide +kernel
theorem dX9_isWord_4 : decode cX9_isWord 4 = .ok (.iload_n 1, 1) := by decide +kernel
theorem dX9_isWord_5 : decode cX9_isWord 5 = .ok (.aload_n 0, 1) := by decide +kernel
theorem dX9_isWord_6 : decode cX9_isWord 6 = .ok (.getfield 20, 3) := by decide +kernel
theorem dX9_isWord_9 : decode cX9_isWord 9 = .ok (.iconst 0, 1) := by decide +kernel
theorem dX9_isWord_10 : decode cX9_isWord 10 = .ok (.aaload, 1) := by decide +kernel
theorem dX9_isWord_11 : decode cX9_isWord 11 = .ok (.getfield 156, 3) := by decide +kernel
theorem dX9_isWord_14 : decode cX9_isWord 14 = .ok (.if_icmp .ge 7, 3) := by decide +kernel
theorem dX9_isWord_17 : decode cX9_isWord 17 = .ok (.iconst 1, 1) := by decide +kernel
theorem dX9_isWord_18 : decode cX9_isWord 18 = .ok (.goto 4, 3) := by decide +kernel
theorem dX9_isWord_21 : decode cX9_isWord 21 = .ok (.iconst 0, 1) := by decide +kernel
theorem dX9_isWord_22 : decode cX9_isWord 22 = .ok (.ireturn, 1) := by decide +kernel
theorem dX9_isPlayer_0 : decode cX9_isPlayer 0 = .ok (.iload_n 1, 1) := by decide +kernel
theorem dX9_isPlayer_1 : decode cX9_isPlayer 1 = .ok (.ifCond .lt 15, 3) := by decide +kernel
theorem dX9_isPlayer_4 : decode cX9_isPlayer 4 = .ok (.iload_n 1, 1) := by decide +kernel
theorem dX9_isPlayer_5 : decode cX9_isPlayer 5 = .ok (.aload_n 0, 1) := by decide +kernel
theorem dX9_isPlayer_6 : decode cX9_isPlayer 6 = .ok (.getfield 150, 3) := by decide +kernel
theorem dX9_isPlayer_9 : decode cX9_isPlayer 9 = .ok (.if_icmp .ge 7, 3) := by decide +kernel
theorem dX9_isPlayer_12 : decode cX9_isPlayer 12 = .ok (.iconst 1, 1) := by decide +kernel
theorem dX9_isPlayer_13 : decode cX9_isPlayer 13 = .ok (.goto 4, 3) := by decide +kernel
theorem dX9_isPlayer_16 : decode cX9_isPlayer 16 = .ok (.iconst 0, 1) := by decide +kernel
theorem dX9_isPlayer_17 : decode cX9_isPlayer 17 = .ok (.ireturn, 1) := by decide +kernel
theorem dX9_isDrawer_0 : decode cX9_isDrawer 0 = .ok (.iload_n 1, 1) := by decide +kernel
theorem dX9_isDrawer_1 : decode cX9_isDrawer 1 = .ok (.bipush (-9), 2) := by decide +kernel
theorem dX9_isDrawer_3 : decode cX9_isDrawer 3 = .ok (.if_icmp .eq 11, 3) := by decide +kernel
theorem dX9_isDrawer_6 : decode cX9_isDrawer 6 = .ok (.aload_n 0, 1) := by decide +kernel
theorem dX9_isDrawer_7 : decode cX9_isDrawer 7 = .ok (.iload_n 1, 1) := by decide +kernel
theorem dX9_isDrawer_8 : decode cX9_isDrawer 8 = .ok (.invokevirtual 176, 3) := by decide +kernel
theorem dX9_isDrawer_11 : decode cX9_isDrawer 11 = .ok (.ifCond .eq 7, 3) := by decide +kernel
theorem dX9_isDrawer_14 : decode cX9_isDrawer 14 = .ok (.iconst 1, 1) := by decide +kernel
theorem dX9_isDrawer_15 : decode cX9_isDrawer 15 = .ok (.goto 4, 3) := by decide +kernel
theorem dX9_isDrawer_18 : decode cX9_isDrawer 18 = .ok (.iconst 0, 1) := by decide +kernel
theorem dX9_isDrawer_19 : decode cX9_isDrawer 19 = .ok (.ireturn, 1) := by decide +kernel
theorem dX9_drawer_0 : decode cX9_drawer 0 = .ok (.aload_n 0, 1) := by decide +kernel
theorem dX9_drawer_1 : decode cX9_drawer 1 = .ok (.iload_n 1, 1) := by decide +kernel
theorem dX9_drawer_2 : decode cX9_drawer 2 = .ok (.invokevirtual 176, 3) := by decide +kernel
theorem dX9_drawer_5 : decode cX9_drawer 5 = .ok (.ifCond .eq 12, 3) := by decide +kernel
theorem dX9_drawer_8 : decode cX9_drawer 8 = .ok (.aload_n 0, 1) := by decide +kernel
theorem dX9_drawer_9 : decode cX9_drawer 9 = .ok (.getfield 26, 3) := by decide +kernel
theorem dX9_drawer_12 : decode cX9_drawer 12 = .ok (.iload_n 1, 1) := by decide +kernel
theorem dX9_drawer_13 : decode cX9_drawer 13 = .ok (.aaload, 1) := by decide +kernel
theorem dX9_drawer_14 : decode cX9_drawer 14 = .ok (.goto 4, 3) := by decide +kernel
theorem dX9_drawer_17 : decode cX9_drawer 17 = .ok (.aconst_null, 1) := by decide +kernel
theorem dX9_drawer_18 : decode cX9_drawer 18 = .ok (.areturn, 1) := by decide +kernel
theorem dX9_boxCounts_0 : decode cX9_boxCounts 0 = .ok (.iload_n 1, 1) := by decide +kernel
theorem dX9_boxCounts_1 : decode cX9_boxCounts 1 = .ok (.invokestatic 143, 3) := by decide +kernel
theorem dX9_boxCounts_4 : decode cX9_boxCounts 4 = .ok (.ifCond .eq 40, 3) := by decide +kernel
theorem dX9_boxCounts_7 : decode cX9_boxCounts 7 = .ok (.aload_n 0, 1) := by decide +kernel
theorem dX9_boxCounts_8 : decode cX9_boxCounts 8 = .ok (.getfield 20, 3) := by decide +kernel
theorem dX9_boxCounts_11 : decode cX9_boxCounts 11 = .ok (.iload_n 1, 1) := by decide +kernel
theorem dX9_boxCounts_12 : decode cX9_boxCounts 12 = .ok (.aaload, 1) := by decide +kernel
theorem dX9_boxCounts_13 : decode cX9_boxCounts 13 = .ok (.getfield 156, 3) := by decide +kernel
theorem dX9_boxCounts_16 : decode cX9_boxCounts 16 = .ok (.ifCond .le 28, 3) := by decide +kernel
theorem dX9_boxCounts_19 : decode cX9_boxCounts 19 = .ok (.aload_n 0, 1) := by decide +kernel
theorem dX9_boxCounts_20 : decode cX9_boxCounts 20 = .ok (.getfield 20, 3) := by decide +kernel
theorem dX9_boxCounts_23 : decode cX9_boxCounts 23 = .ok (.iload_n 1, 1) := by decide +kernel
theorem dX9_boxCounts_24 : decode cX9_boxCounts 24 = .ok (.aaload, 1) := by decide +kernel
theorem dX9_boxCounts_25 : decode cX9_boxCounts 25 = .ok (.getfield 156, 3) := by decide +kernel
theorem dX9_boxCounts_28 : decode cX9_boxCounts 28 = .ok (.aload_n 0, 1) := by decide +kernel
theorem dX9_boxCounts_29 : decode cX9_boxCounts 29 = .ok (.getfield 20, 3) := by decide +kernel
theorem dX9_boxCounts_32 : decode cX9_boxCounts 32 = .ok (.iconst 0, 1) := by decide +kernel
theorem dX9_boxCounts_33 : decode cX9_boxCounts 33 = .ok (.aaload, 1) := by decide +kernel
theorem dX9_boxCounts_34 : decode cX9_boxCounts 34 = .ok (.getfield 156, 3) := by decide +kernel
theorem dX9_boxCounts_37 : decode cX9_boxCounts 37 = .ok (.if_icmp .ne 7, 3) := by decide +kernel
theorem dX9_boxCounts_40 : decode cX9_boxCounts 40 = .ok (.iconst 1, 1) := by decide +kernel
theorem dX9_boxCounts_41 : decode cX9_boxCounts 41 = .ok (.goto 4, 3) := by decide +kernel
theorem dX9_boxCounts_44 : decode cX9_boxCounts 44 = .ok (.iconst 0, 1) := by decide +kernel
theorem dX9_boxCounts_45 : decode cX9_boxCounts 45 = .ok (.ireturn, 1) := by decide +kernel
theorem dX9_tableFault_0 : decode cX9_tableFault 0 = .ok (.aload_n 0, 1) := by decide +kernel
theorem dX9_tableFault_1 : decode cX9_tableFault 1 = .ok (.getfield 11, 3) := by decide +kernel
theorem dX9_tableFault_4 : decode cX9_tableFault 4 = .ok (.iload_n 1, 1) := by decide +kernel
theorem dX9_tableFault_5 : decode cX9_tableFault 5 = .ok (.aaload, 1) := by decide +kernel
theorem dX9_tableFault_6 : decode cX9_tableFault 6 = .ok (.astore_n 2, 1) := by decide +kernel
theorem dX9_tableFault_7 : decode cX9_tableFault 7 = .ok (.aload_n 2, 1) := by decide +kernel
theorem dX9_tableFault_8 : decode cX9_tableFault 8 = .ok (.invokevirtual 107, 3) := by decide +kernel
theorem dX9_tableFault_11 : decode cX9_tableFault 11 = .ok (.ifCond .eq 5, 3) := by decide +kernel
theorem dX9_tableFault_14 : decode cX9_tableFault 14 = .ok (.iconst 1, 1) := by decide +kernel
theorem dX9_tableFault_15 : decode cX9_tableFault 15 = .ok (.ireturn, 1) := by decide +kernel
theorem dX9_tableFault_16 : decode cX9_tableFault 16 = .ok (.aload_n 2, 1) := by decide +kernel
theorem dX9_tableFault_17 : decode cX9_tableFault 17 = .ok (.getfield 128, 3) := by decide +kernel
theorem dX9_tableFault_20 : decode cX9_tableFault 20 = .ok (.iconst 2, 1) := by decide +kernel
theorem dX9_tableFault_21 : decode cX9_tableFault 21 = .ok (.if_icmp .lt 21, 3) := by decide +kernel
theorem dX9_tableFault_24 : decode cX9_tableFault 24 = .ok (.aload_n 2, 1) := by decide +kernel
theorem dX9_tableFault_25 : decode cX9_tableFault 25 = .ok (.getfield 128, 3) := by decide +kernel
theorem dX9_tableFault_28 : decode cX9_tableFault 28 = .ok (.bipush 8, 2) := by decide +kernel
theorem dX9_tableFault_30 : decode cX9_tableFault 30 = .ok (.if_icmp .gt 12, 3) := by decide +kernel
theorem dX9_tableFault_33 : decode cX9_tableFault 33 = .ok (.aload_n 2, 1) := by decide +kernel
theorem dX9_tableFault_34 : decode cX9_tableFault 34 = .ok (.getfield 128, 3) := by decide +kernel
theorem dX9_tableFault_37 : decode cX9_tableFault 37 = .ok (.iconst 2, 1) := by decide +kernel
theorem dX9_tableFault_38 : decode cX9_tableFault 38 = .ok (.irem, 1) := by decide +kernel
theorem dX9_tableFault_39 : decode cX9_tableFault 39 = .ok (.ifCond .eq 5, 3) := by decide +kernel
theorem dX9_tableFault_42 : decode cX9_tableFault 42 = .ok (.iconst 5, 1) := by decide +kernel
theorem dX9_tableFault_43 : decode cX9_tableFault 43 = .ok (.ireturn, 1) := by decide +kernel
theorem dX9_tableFault_44 : decode cX9_tableFault 44 = .ok (.aload_n 2, 1) := by decide +kernel
theorem dX9_tableFault_45 : decode cX9_tableFault 45 = .ok (.aload_n 0, 1) := by decide +kernel
theorem dX9_tableFault_46 : decode cX9_tableFault 46 = .ok (.getfield 150, 3) := by decide +kernel
theorem dX9_tableFault_49 : decode cX9_tableFault 49 = .ok (.invokevirtual 405, 3) := by decide +kernel
theorem dX9_tableFault_52 : decode cX9_tableFault 52 = .ok (.ifCond .eq 7, 3) := by decide +kernel
theorem dX9_tableFault_55 : decode cX9_tableFault 55 = .ok (.iconst 0, 1) := by decide +kernel
theorem dX9_tableFault_56 : decode cX9_tableFault 56 = .ok (.goto 4, 3) := by decide +kernel
theorem dX9_tableFault_59 : decode cX9_tableFault 59 = .ok (.iconst 3, 1) := by decide +kernel
theorem dX9_tableFault_60 : decode cX9_tableFault 60 = .ok (.ireturn, 1) := by decide +kernel
theorem dX9_padsFault_0 : decode cX9_padsFault 0 = .ok (.aload_n 0, 1) := by decide +kernel
theorem dX9_padsFault_1 : decode cX9_padsFault 1 = .ok (.getfield 11, 3) := by decide +kernel
theorem dX9_padsFault_4 : decode cX9_padsFault 4 = .ok (.iload_n 2, 1) := by decide +kernel
theorem dX9_padsFault_5 : decode cX9_padsFault 5 = .ok (.aaload, 1) := by decide +kernel
theorem dX9_padsFault_6 : decode cX9_padsFault 6 = .ok (.invokevirtual 107, 3) := by decide +kernel
theorem dX9_padsFault_9 : decode cX9_padsFault 9 = .ok (.ifCond .eq 5, 3) := by decide +kernel
theorem dX9_padsFault_12 : decode cX9_padsFault 12 = .ok (.iconst 1, 1) := by decide +kernel
theorem dX9_padsFault_13 : decode cX9_padsFault 13 = .ok (.ireturn, 1) := by decide +kernel
theorem dX9_padsFault_14 : decode cX9_padsFault 14 = .ok (.aload_n 0, 1) := by decide +kernel
theorem dX9_padsFault_15 : decode cX9_padsFault 15 = .ok (.iload_n 1, 1) := by decide +kernel
theorem dX9_padsFault_16 : decode cX9_padsFault 16 = .ok (.invokevirtual 233, 3) := by decide +kernel
theorem dX9_padsFault_19 : decode cX9_padsFault 19 = .ok (.istore_n 3, 1) := by decide +kernel
theorem dX9_padsFault_20 : decode cX9_padsFault 20 = .ok (.iload_n 3, 1) := by decide +kernel
theorem dX9_padsFault_21 : decode cX9_padsFault 21 = .ok (.iconst 1, 1) := by decide +kernel
theorem dX9_padsFault_22 : decode cX9_padsFault 22 = .ok (.if_icmp .eq 8, 3) := by decide +kernel
theorem dX9_padsFault_25 : decode cX9_padsFault 25 = .ok (.iload_n 3, 1) := by decide +kernel
theorem dX9_padsFault_26 : decode cX9_padsFault 26 = .ok (.iconst 5, 1) := by decide +kernel
theorem dX9_padsFault_27 : decode cX9_padsFault 27 = .ok (.if_icmp .ne 5, 3) := by decide +kernel
theorem dX9_padsFault_30 : decode cX9_padsFault 30 = .ok (.iload_n 3, 1) := by decide +kernel
theorem dX9_padsFault_31 : decode cX9_padsFault 31 = .ok (.ireturn, 1) := by decide +kernel
theorem dX9_padsFault_32 : decode cX9_padsFault 32 = .ok (.aload_n 0, 1) := by decide +kernel
theorem dX9_padsFault_33 : decode cX9_padsFault 33 = .ok (.getfield 11, 3) := by decide +kernel
theorem dX9_padsFault_36 : decode cX9_padsFault 36 = .ok (.iload_n 2, 1) := by decide +kernel
theorem dX9_padsFault_37 : decode cX9_padsFault 37 = .ok (.aaload, 1) := by decide +kernel
theorem dX9_padsFault_38 : decode cX9_padsFault 38 = .ok (.getfield 128, 3) := by decide +kernel
theorem dX9_padsFault_41 : decode cX9_padsFault 41 = .ok (.aload_n 0, 1) := by decide +kernel
theorem dX9_padsFault_42 : decode cX9_padsFault 42 = .ok (.getfield 11, 3) := by decide +kernel
theorem dX9_padsFault_45 : decode cX9_padsFault 45 = .ok (.iload_n 1, 1) := by decide +kernel
theorem dX9_padsFault_46 : decode cX9_padsFault 46 = .ok (.aaload, 1) := by decide +kernel
theorem dX9_padsFault_47 : decode cX9_padsFault 47 = .ok (.getfield 128, 3) := by decide +kernel
theorem dX9_padsFault_50 : decode cX9_padsFault 50 = .ok (.if_icmp .eq 5, 3) := by decide +kernel
theorem dX9_padsFault_53 : decode cX9_padsFault 53 = .ok (.iconst 5, 1) := by decide +kernel
theorem dX9_padsFault_54 : decode cX9_padsFault 54 = .ok (.ireturn, 1) := by decide +kernel
theorem dX9_padsFault_55 : decode cX9_padsFault 55 = .ok (.iconst 0, 1) := by decide +kernel
theorem dX9_padsFault_56 : decode cX9_padsFault 56 = .ok (.istore 4, 2) := by decide +kernel
theorem dX9_padsFault_58 : decode cX9_padsFault 58 = .ok (.iload 4, 2) := by decide +kernel
theorem dX9_padsFault_60 : decode cX9_padsFault 60 = .ok (.aload_n 0, 1) := by decide +kernel
theorem dX9_padsFault_61 : decode cX9_padsFault 61 = .ok (.getfield 11, 3) := by decide +kernel
theorem dX9_padsFault_64 : decode cX9_padsFault 64 = .ok (.iload_n 2, 1) := by decide +kernel
theorem dX9_padsFault_65 : decode cX9_padsFault 65 = .ok (.aaload, 1) := by decide +kernel
theorem dX9_padsFault_66 : decode cX9_padsFault 66 = .ok (.getfield 128, 3) := by decide +kernel
theorem dX9_padsFault_69 : decode cX9_padsFault 69 = .ok (.if_icmp .ge 29, 3) := by decide +kernel
theorem dX9_padsFault_72 : decode cX9_padsFault 72 = .ok (.aload_n 0, 1) := by decide +kernel
theorem dX9_padsFault_73 : decode cX9_padsFault 73 = .ok (.aload_n 0, 1) := by decide +kernel
theorem dX9_padsFault_74 : decode cX9_padsFault 74 = .ok (.getfield 11, 3) := by decide +kernel
theorem dX9_padsFault_77 : decode cX9_padsFault 77 = .ok (.iload_n 2, 1) := by decide +kernel
theorem dX9_padsFault_78 : decode cX9_padsFault 78 = .ok (.aaload, 1) := by decide +kernel
theorem dX9_padsFault_79 : decode cX9_padsFault 79 = .ok (.iload 4, 2) := by decide +kernel
theorem dX9_padsFault_81 : decode cX9_padsFault 81 = .ok (.invokevirtual 98, 3) := by decide +kernel
theorem dX9_padsFault_84 : decode cX9_padsFault 84 = .ok (.invokevirtual 165, 3) := by decide +kernel
theorem dX9_padsFault_87 : decode cX9_padsFault 87 = .ok (.ifCond .ne 5, 3) := by decide +kernel
theorem dX9_padsFault_90 : decode cX9_padsFault 90 = .ok (.iconst 3, 1) := by decide +kernel
theorem dX9_padsFault_91 : decode cX9_padsFault 91 = .ok (.ireturn, 1) := by decide +kernel
theorem dX9_padsFault_92 : decode cX9_padsFault 92 = .ok (.iinc 4 1, 3) := by decide +kernel
theorem dX9_padsFault_95 : decode cX9_padsFault 95 = .ok (.goto (-37), 3) := by decide +kernel
theorem dX9_padsFault_98 : decode cX9_padsFault 98 = .ok (.iload_n 3, 1) := by decide +kernel
theorem dX9_padsFault_99 : decode cX9_padsFault 99 = .ok (.ireturn, 1) := by decide +kernel
theorem dX9_imageFault_0 : decode cX9_imageFault 0 = .ok (.aload_n 1, 1) := by decide +kernel
theorem dX9_imageFault_1 : decode cX9_imageFault 1 = .ok (.invokevirtual 107, 3) := by decide +kernel
theorem dX9_imageFault_4 : decode cX9_imageFault 4 = .ok (.ifCond .eq 5, 3) := by decide +kernel
theorem dX9_imageFault_7 : decode cX9_imageFault 7 = .ok (.iconst 1, 1) := by decide +kernel
theorem dX9_imageFault_8 : decode cX9_imageFault 8 = .ok (.ireturn, 1) := by decide +kernel
theorem dX9_imageFault_9 : decode cX9_imageFault 9 = .ok (.aload_n 1, 1) := by decide +kernel
theorem dX9_imageFault_10 : decode cX9_imageFault 10 = .ok (.getfield 128, 3) := by decide +kernel
theorem dX9_imageFault_13 : decode cX9_imageFault 13 = .ok (.bipush 8, 2) := by decide +kernel
theorem dX9_imageFault_15 : decode cX9_imageFault 15 = .ok (.if_icmp .le 5, 3) := by decide +kernel
theorem dX9_imageFault_18 : decode cX9_imageFault 18 = .ok (.iconst 5, 1) := by decide +kernel
theorem dX9_imageFault_19 : decode cX9_imageFault 19 = .ok (.ireturn, 1) := by decide +kernel
theorem dX9_imageFault_20 : decode cX9_imageFault 20 = .ok (.iconst 0, 1) := by decide +kernel
theorem dX9_imageFault_21 : decode cX9_imageFault 21 = .ok (.istore_n 2, 1) := by decide +kernel
theorem dX9_imageFault_22 : decode cX9_imageFault 22 = .ok (.iload_n 2, 1) := by decide +kernel
theorem dX9_imageFault_23 : decode cX9_imageFault 23 = .ok (.aload_n 1, 1) := by decide +kernel
theorem dX9_imageFault_24 : decode cX9_imageFault 24 = .ok (.getfield 128, 3) := by decide +kernel
theorem dX9_imageFault_27 : decode cX9_imageFault 27 = .ok (.if_icmp .ge 90, 3) := by decide +kernel
theorem dX9_imageFault_30 : decode cX9_imageFault 30 = .ok (.aload_n 1, 1) := by decide +kernel
theorem dX9_imageFault_31 : decode cX9_imageFault 31 = .ok (.iload_n 2, 1) := by decide +kernel
theorem dX9_imageFault_32 : decode cX9_imageFault 32 = .ok (.invokevirtual 98, 3) := by decide +kernel
theorem dX9_imageFault_35 : decode cX9_imageFault 35 = .ok (.istore_n 3, 1) := by decide +kernel
theorem dX9_imageFault_36 : decode cX9_imageFault 36 = .ok (.iload_n 3, 1) := by decide +kernel
theorem dX9_imageFault_37 : decode cX9_imageFault 37 = .ok (.bipush 10, 2) := by decide +kernel
theorem dX9_imageFault_39 : decode cX9_imageFault 39 = .ok (.idiv, 1) := by decide +kernel
theorem dX9_imageFault_40 : decode cX9_imageFault 40 = .ok (.bipush 10, 2) := by decide +kernel
theorem dX9_imageFault_42 : decode cX9_imageFault 42 = .ok (.irem, 1) := by decide +kernel
theorem dX9_imageFault_43 : decode cX9_imageFault 43 = .ok (.istore 4, 2) := by decide +kernel
theorem dX9_imageFault_45 : decode cX9_imageFault 45 = .ok (.iload_n 3, 1) := by decide +kernel
theorem dX9_imageFault_46 : decode cX9_imageFault 46 = .ok (.ifCond .lt 55, 3) := by decide +kernel
theorem dX9_imageFault_49 : decode cX9_imageFault 49 = .ok (.iload_n 3, 1) := by decide +kernel
theorem dX9_imageFault_50 : decode cX9_imageFault 50 = .ok (.sipush 1000, 3) := by decide +kernel
theorem dX9_imageFault_53 : decode cX9_imageFault 53 = .ok (.idiv, 1) := by decide +kernel
theorem dX9_imageFault_54 : decode cX9_imageFault 54 = .ok (.bipush 6, 2) := by decide +kernel
theorem dX9_imageFault_56 : decode cX9_imageFault 56 = .ok (.if_icmp .ge 45, 3) := by decide +kernel
theorem dX9_imageFault_59 : decode cX9_imageFault 59 = .ok (.aload_n 0, 1) := by decide +kernel
theorem dX9_imageFault_60 : decode cX9_imageFault 60 = .ok (.iload_n 3, 1) := by decide +kernel
theorem dX9_imageFault_61 : decode cX9_imageFault 61 = .ok (.bipush 100, 2) := by decide +kernel
theorem dX9_imageFault_63 : decode cX9_imageFault 63 = .ok (.idiv, 1) := by decide +kernel
theorem dX9_imageFault_64 : decode cX9_imageFault 64 = .ok (.bipush 10, 2) := by decide +kernel
theorem dX9_imageFault_66 : decode cX9_imageFault 66 = .ok (.irem, 1) := by decide +kernel
theorem dX9_imageFault_67 : decode cX9_imageFault 67 = .ok (.invokevirtual 162, 3) := by decide +kernel
theorem dX9_imageFault_70 : decode cX9_imageFault 70 = .ok (.ifCond .eq 31, 3) := by decide +kernel
theorem dX9_imageFault_73 : decode cX9_imageFault 73 = .ok (.iload 4, 2) := by decide +kernel
theorem dX9_imageFault_75 : decode cX9_imageFault 75 = .ok (.iconst 1, 1) := by decide +kernel
theorem dX9_imageFault_76 : decode cX9_imageFault 76 = .ok (.if_icmp .lt 25, 3) := by decide +kernel
theorem dX9_imageFault_79 : decode cX9_imageFault 79 = .ok (.iload 4, 2) := by decide +kernel
theorem dX9_imageFault_81 : decode cX9_imageFault 81 = .ok (.bipush 6, 2) := by decide +kernel
theorem dX9_imageFault_83 : decode cX9_imageFault 83 = .ok (.if_icmp .gt 18, 3) := by decide +kernel
theorem dX9_imageFault_86 : decode cX9_imageFault 86 = .ok (.aload_n 0, 1) := by decide +kernel
theorem dX9_imageFault_87 : decode cX9_imageFault 87 = .ok (.iload_n 3, 1) := by decide +kernel
theorem dX9_imageFault_88 : decode cX9_imageFault 88 = .ok (.bipush 10, 2) := by decide +kernel
theorem dX9_imageFault_90 : decode cX9_imageFault 90 = .ok (.irem, 1) := by decide +kernel
theorem dX9_imageFault_91 : decode cX9_imageFault 91 = .ok (.invokevirtual 165, 3) := by decide +kernel
theorem dX9_imageFault_94 : decode cX9_imageFault 94 = .ok (.ifCond .eq 7, 3) := by decide +kernel
theorem dX9_imageFault_97 : decode cX9_imageFault 97 = .ok (.iconst 1, 1) := by decide +kernel
theorem dX9_imageFault_98 : decode cX9_imageFault 98 = .ok (.goto 4, 3) := by decide +kernel
theorem dX9_imageFault_101 : decode cX9_imageFault 101 = .ok (.iconst 0, 1) := by decide +kernel
theorem dX9_imageFault_102 : decode cX9_imageFault 102 = .ok (.istore 5, 2) := by decide +kernel
theorem dX9_imageFault_104 : decode cX9_imageFault 104 = .ok (.iload 5, 2) := by decide +kernel
theorem dX9_imageFault_106 : decode cX9_imageFault 106 = .ok (.ifCond .ne 5, 3) := by decide +kernel
theorem dX9_imageFault_109 : decode cX9_imageFault 109 = .ok (.iconst 3, 1) := by decide +kernel
theorem dX9_imageFault_110 : decode cX9_imageFault 110 = .ok (.ireturn, 1) := by decide +kernel
theorem dX9_imageFault_111 : decode cX9_imageFault 111 = .ok (.iinc 2 1, 3) := by decide +kernel
theorem dX9_imageFault_114 : decode cX9_imageFault 114 = .ok (.goto (-92), 3) := by decide +kernel
theorem dX9_imageFault_117 : decode cX9_imageFault 117 = .ok (.iconst 0, 1) := by decide +kernel
theorem dX9_imageFault_118 : decode cX9_imageFault 118 = .ok (.ireturn, 1) := by decide +kernel
theorem dX9_seatPlayer_0 : decode cX9_seatPlayer 0 = .ok (.aload_n 0, 1) := by decide +kernel
theorem dX9_seatPlayer_1 : decode cX9_seatPlayer 1 = .ok (.iload_n 1, 1) := by decide +kernel
theorem dX9_seatPlayer_2 : decode cX9_seatPlayer 2 = .ok (.invokevirtual 176, 3) := by decide +kernel
theorem dX9_seatPlayer_5 : decode cX9_seatPlayer 5 = .ok (.ifCond .eq 10, 3) := by decide +kernel
theorem dX9_seatPlayer_8 : decode cX9_seatPlayer 8 = .ok (.iload_n 3, 1) := by decide +kernel
theorem dX9_seatPlayer_9 : decode cX9_seatPlayer 9 = .ok (.invokestatic 143, 3) := by decide +kernel
theorem dX9_seatPlayer_12 : decode cX9_seatPlayer 12 = .ok (.ifCond .ne 4, 3) := by decide +kernel
theorem dX9_seatPlayer_15 : decode cX9_seatPlayer 15 = .ok (.return_, 1) := by decide +kernel
theorem dX9_seatPlayer_16 : decode cX9_seatPlayer 16 = .ok (.aload_n 0, 1) := by decide +kernel
theorem dX9_seatPlayer_17 : decode cX9_seatPlayer 17 = .ok (.getfield 26, 3) := by decide +kernel
theorem dX9_seatPlayer_20 : decode cX9_seatPlayer 20 = .ok (.iload_n 1, 1) := by decide +kernel
theorem dX9_seatPlayer_21 : decode cX9_seatPlayer 21 = .ok (.aaload, 1) := by decide +kernel
theorem dX9_seatPlayer_22 : decode cX9_seatPlayer 22 = .ok (.iload_n 2, 1) := by decide +kernel
theorem dX9_seatPlayer_23 : decode cX9_seatPlayer 23 = .ok (.iload_n 3, 1) := by decide +kernel
theorem dX9_seatPlayer_24 : decode cX9_seatPlayer 24 = .ok (.iload 4, 2) := by decide +kernel
theorem dX9_seatPlayer_26 : decode cX9_seatPlayer 26 = .ok (.iload 5, 2) := by decide +kernel
theorem dX9_seatPlayer_28 : decode cX9_seatPlayer 28 = .ok (.aload_n 0, 1) := by decide +kernel
theorem dX9_seatPlayer_29 : decode cX9_seatPlayer 29 = .ok (.getfield 20, 3) := by decide +kernel
theorem dX9_seatPlayer_32 : decode cX9_seatPlayer 32 = .ok (.iload_n 3, 1) := by decide +kernel
theorem dX9_seatPlayer_33 : decode cX9_seatPlayer 33 = .ok (.aaload, 1) := by decide +kernel
theorem dX9_seatPlayer_34 : decode cX9_seatPlayer 34 = .ok (.invokevirtual 408, 3) := by decide +kernel
theorem dX9_seatPlayer_37 : decode cX9_seatPlayer 37 = .ok (.iconst 0, 1) := by decide +kernel
theorem dX9_seatPlayer_38 : decode cX9_seatPlayer 38 = .ok (.istore 6, 2) := by decide +kernel
theorem dX9_seatPlayer_40 : decode cX9_seatPlayer 40 = .ok (.iload 6, 2) := by decide +kernel
theorem dX9_seatPlayer_42 : decode cX9_seatPlayer 42 = .ok (.bipush 8, 2) := by decide +kernel
theorem dX9_seatPlayer_44 : decode cX9_seatPlayer 44 = .ok (.if_icmp .ge 43, 3) := by decide +kernel
theorem dX9_seatPlayer_47 : decode cX9_seatPlayer 47 = .ok (.aload_n 0, 1) := by decide +kernel
theorem dX9_seatPlayer_48 : decode cX9_seatPlayer 48 = .ok (.getfield 46, 3) := by decide +kernel
theorem dX9_seatPlayer_51 : decode cX9_seatPlayer 51 = .ok (.aload_n 0, 1) := by decide +kernel
theorem dX9_seatPlayer_52 : decode cX9_seatPlayer 52 = .ok (.getfield 26, 3) := by decide +kernel
theorem dX9_seatPlayer_55 : decode cX9_seatPlayer 55 = .ok (.iload_n 1, 1) := by decide +kernel
theorem dX9_seatPlayer_56 : decode cX9_seatPlayer 56 = .ok (.aaload, 1) := by decide +kernel
theorem dX9_seatPlayer_57 : decode cX9_seatPlayer 57 = .ok (.iload 6, 2) := by decide +kernel
theorem dX9_seatPlayer_59 : decode cX9_seatPlayer 59 = .ok (.invokevirtual 185, 3) := by decide +kernel
theorem dX9_seatPlayer_62 : decode cX9_seatPlayer 62 = .ok (.aload_n 0, 1) := by decide +kernel
theorem dX9_seatPlayer_63 : decode cX9_seatPlayer 63 = .ok (.getfield 26, 3) := by decide +kernel
theorem dX9_seatPlayer_66 : decode cX9_seatPlayer 66 = .ok (.iload_n 1, 1) := by decide +kernel
theorem dX9_seatPlayer_67 : decode cX9_seatPlayer 67 = .ok (.aaload, 1) := by decide +kernel
theorem dX9_seatPlayer_68 : decode cX9_seatPlayer 68 = .ok (.getfield 412, 3) := by decide +kernel
theorem dX9_seatPlayer_71 : decode cX9_seatPlayer 71 = .ok (.iload 6, 2) := by decide +kernel
theorem dX9_seatPlayer_73 : decode cX9_seatPlayer 73 = .ok (.aload_n 0, 1) := by decide +kernel
theorem dX9_seatPlayer_74 : decode cX9_seatPlayer 74 = .ok (.getfield 46, 3) := by decide +kernel
theorem dX9_seatPlayer_77 : decode cX9_seatPlayer 77 = .ok (.invokevirtual 415, 3) := by decide +kernel
theorem dX9_seatPlayer_80 : decode cX9_seatPlayer 80 = .ok (.iastore, 1) := by decide +kernel
theorem dX9_seatPlayer_81 : decode cX9_seatPlayer 81 = .ok (.iinc 6 1, 3) := by decide +kernel
theorem dX9_seatPlayer_84 : decode cX9_seatPlayer 84 = .ok (.goto (-44), 3) := by decide +kernel
theorem dX9_seatPlayer_87 : decode cX9_seatPlayer 87 = .ok (.return_, 1) := by decide +kernel
theorem dX9_guessFirstPart_0 : decode cX9_guessFirstPart 0 = .ok (.aload_n 0, 1) := by decide +kernel
theorem dX9_guessFirstPart_1 : decode cX9_guessFirstPart 1 = .ok (.getfield 46, 3) := by decide +kernel
theorem dX9_guessFirstPart_4 : decode cX9_guessFirstPart 4 = .ok (.iconst 1, 1) := by decide +kernel
theorem dX9_guessFirstPart_5 : decode cX9_guessFirstPart 5 = .ok (.invokevirtual 417, 3) := by decide +kernel
theorem dX9_guessFirstPart_8 : decode cX9_guessFirstPart 8 = .ok (.aload_n 0, 1) := by decide +kernel
theorem dX9_guessFirstPart_9 : decode cX9_guessFirstPart 9 = .ok (.getfield 53, 3) := by decide +kernel
theorem dX9_guessFirstPart_12 : decode cX9_guessFirstPart 12 = .ok (.aload_n 1, 1) := by decide +kernel
theorem dX9_guessFirstPart_13 : decode cX9_guessFirstPart 13 = .ok (.aload_n 0, 1) := by decide +kernel
theorem dX9_guessFirstPart_14 : decode cX9_guessFirstPart 14 = .ok (.getfield 46, 3) := by decide +kernel
theorem dX9_guessFirstPart_17 : decode cX9_guessFirstPart 17 = .ok (.aconst_null, 1) := by decide +kernel
theorem dX9_guessFirstPart_18 : decode cX9_guessFirstPart 18 = .ok (.invokevirtual 225, 3) := by decide +kernel
theorem dX9_guessFirstPart_21 : decode cX9_guessFirstPart 21 = .ok (.return_, 1) := by decide +kernel
theorem dX9_handsRead_0 : decode cX9_handsRead 0 = .ok (.iconst 0, 1) := by decide +kernel
theorem dX9_handsRead_1 : decode cX9_handsRead 1 = .ok (.istore_n 2, 1) := by decide +kernel
theorem dX9_handsRead_2 : decode cX9_handsRead 2 = .ok (.iconst 0, 1) := by decide +kernel
theorem dX9_handsRead_3 : decode cX9_handsRead 3 = .ok (.istore_n 3, 1) := by decide +kernel
theorem dX9_handsRead_4 : decode cX9_handsRead 4 = .ok (.iload_n 3, 1) := by decide +kernel
theorem dX9_handsRead_5 : decode cX9_handsRead 5 = .ok (.aload_n 0, 1) := by decide +kernel
theorem dX9_handsRead_6 : decode cX9_handsRead 6 = .ok (.getfield 150, 3) := by decide +kernel
theorem dX9_handsRead_9 : decode cX9_handsRead 9 = .ok (.if_icmp .ge 80, 3) := by decide +kernel
theorem dX9_handsRead_12 : decode cX9_handsRead 12 = .ok (.aload_n 0, 1) := by decide +kernel
theorem dX9_handsRead_13 : decode cX9_handsRead 13 = .ok (.getfield 46, 3) := by decide +kernel
theorem dX9_handsRead_16 : decode cX9_handsRead 16 = .ok (.aload_n 0, 1) := by decide +kernel
theorem dX9_handsRead_17 : decode cX9_handsRead 17 = .ok (.getfield 26, 3) := by decide +kernel
theorem dX9_handsRead_20 : decode cX9_handsRead 20 = .ok (.iload_n 3, 1) := by decide +kernel
theorem dX9_handsRead_21 : decode cX9_handsRead 21 = .ok (.aaload, 1) := by decide +kernel
theorem dX9_handsRead_22 : decode cX9_handsRead 22 = .ok (.iconst 0, 1) := by decide +kernel
theorem dX9_handsRead_23 : decode cX9_handsRead 23 = .ok (.invokevirtual 185, 3) := by decide +kernel
theorem dX9_handsRead_26 : decode cX9_handsRead 26 = .ok (.aload_n 0, 1) := by decide +kernel
theorem dX9_handsRead_27 : decode cX9_handsRead 27 = .ok (.getfield 53, 3) := by decide +kernel
theorem dX9_handsRead_30 : decode cX9_handsRead 30 = .ok (.aload_n 1, 1) := by decide +kernel
theorem dX9_handsRead_31 : decode cX9_handsRead 31 = .ok (.aload_n 0, 1) := by decide +kernel
theorem dX9_handsRead_32 : decode cX9_handsRead 32 = .ok (.getfield 46, 3) := by decide +kernel
theorem dX9_handsRead_35 : decode cX9_handsRead 35 = .ok (.aload_n 0, 1) := by decide +kernel
theorem dX9_handsRead_36 : decode cX9_handsRead 36 = .ok (.getfield 26, 3) := by decide +kernel
theorem dX9_handsRead_39 : decode cX9_handsRead 39 = .ok (.iload_n 3, 1) := by decide +kernel
theorem dX9_handsRead_40 : decode cX9_handsRead 40 = .ok (.aaload, 1) := by decide +kernel
theorem dX9_handsRead_41 : decode cX9_handsRead 41 = .ok (.invokevirtual 225, 3) := by decide +kernel
theorem dX9_handsRead_44 : decode cX9_handsRead 44 = .ok (.aload_n 0, 1) := by decide +kernel
theorem dX9_handsRead_45 : decode cX9_handsRead 45 = .ok (.getfield 53, 3) := by decide +kernel
theorem dX9_handsRead_48 : decode cX9_handsRead 48 = .ok (.iconst 0, 1) := by decide +kernel
theorem dX9_handsRead_49 : decode cX9_handsRead 49 = .ok (.invokevirtual 197, 3) := by decide +kernel
theorem dX9_handsRead_52 : decode cX9_handsRead 52 = .ok (.istore 4, 2) := by decide +kernel
theorem dX9_handsRead_54 : decode cX9_handsRead 54 = .ok (.aload_n 0, 1) := by decide +kernel
theorem dX9_handsRead_55 : decode cX9_handsRead 55 = .ok (.getfield 53, 3) := by decide +kernel
theorem dX9_handsRead_58 : decode cX9_handsRead 58 = .ok (.aload_n 1, 1) := by decide +kernel
theorem dX9_handsRead_59 : decode cX9_handsRead 59 = .ok (.aload_n 0, 1) := by decide +kernel
theorem dX9_handsRead_60 : decode cX9_handsRead 60 = .ok (.getfield 46, 3) := by decide +kernel
theorem dX9_handsRead_63 : decode cX9_handsRead 63 = .ok (.aconst_null, 1) := by decide +kernel
theorem dX9_handsRead_64 : decode cX9_handsRead 64 = .ok (.invokevirtual 225, 3) := by decide +kernel
theorem dX9_handsRead_67 : decode cX9_handsRead 67 = .ok (.iload 4, 2) := by decide +kernel
theorem dX9_handsRead_69 : decode cX9_handsRead 69 = .ok (.aload_n 0, 1) := by decide +kernel
theorem dX9_handsRead_70 : decode cX9_handsRead 70 = .ok (.getfield 53, 3) := by decide +kernel
theorem dX9_handsRead_73 : decode cX9_handsRead 73 = .ok (.iconst 0, 1) := by decide +kernel
theorem dX9_handsRead_74 : decode cX9_handsRead 74 = .ok (.invokevirtual 197, 3) := by decide +kernel
theorem dX9_handsRead_77 : decode cX9_handsRead 77 = .ok (.if_icmp .le 6, 3) := by decide +kernel
theorem dX9_handsRead_80 : decode cX9_handsRead 80 = .ok (.iinc 2 1, 3) := by decide +kernel
theorem dX9_handsRead_83 : decode cX9_handsRead 83 = .ok (.iinc 3 1, 3) := by decide +kernel
theorem dX9_handsRead_86 : decode cX9_handsRead 86 = .ok (.goto (-82), 3) := by decide +kernel
theorem dX9_handsRead_89 : decode cX9_handsRead 89 = .ok (.iload_n 2, 1) := by decide +kernel
theorem dX9_handsRead_90 : decode cX9_handsRead 90 = .ok (.ireturn, 1) := by decide +kernel
theorem dX9_shareBySet_0 : decode cX9_shareBySet 0 = .ok (.aload_n 0, 1) := by decide +kernel
theorem dX9_shareBySet_1 : decode cX9_shareBySet 1 = .ok (.getfield 46, 3) := by decide +kernel
theorem dX9_shareBySet_4 : decode cX9_shareBySet 4 = .ok (.iload_n 2, 1) := by decide +kernel
theorem dX9_shareBySet_5 : decode cX9_shareBySet 5 = .ok (.invokevirtual 417, 3) := by decide +kernel
theorem dX9_shareBySet_8 : decode cX9_shareBySet 8 = .ok (.aload_n 0, 1) := by decide +kernel
theorem dX9_shareBySet_9 : decode cX9_shareBySet 9 = .ok (.getfield 53, 3) := by decide +kernel
theorem dX9_shareBySet_12 : decode cX9_shareBySet 12 = .ok (.aload_n 1, 1) := by decide +kernel
theorem dX9_shareBySet_13 : decode cX9_shareBySet 13 = .ok (.aload_n 0, 1) := by decide +kernel
theorem dX9_shareBySet_14 : decode cX9_shareBySet 14 = .ok (.getfield 46, 3) := by decide +kernel
theorem dX9_shareBySet_17 : decode cX9_shareBySet 17 = .ok (.aconst_null, 1) := by decide +kernel
theorem dX9_shareBySet_18 : decode cX9_shareBySet 18 = .ok (.invokevirtual 225, 3) := by decide +kernel
theorem dX9_shareBySet_21 : decode cX9_shareBySet 21 = .ok (.aload_n 0, 1) := by decide +kernel
theorem dX9_shareBySet_22 : decode cX9_shareBySet 22 = .ok (.getfield 53, 3) := by decide +kernel
theorem dX9_shareBySet_25 : decode cX9_shareBySet 25 = .ok (.iload_n 3, 1) := by decide +kernel
theorem dX9_shareBySet_26 : decode cX9_shareBySet 26 = .ok (.invokevirtual 197, 3) := by decide +kernel
theorem dX9_shareBySet_29 : decode cX9_shareBySet 29 = .ok (.ireturn, 1) := by decide +kernel
theorem dX9_seatTable_0 : decode cX9_seatTable 0 = .ok (.aload_n 0, 1) := by decide +kernel
theorem dX9_seatTable_1 : decode cX9_seatTable 1 = .ok (.getfield 60, 3) := by decide +kernel
theorem dX9_seatTable_4 : decode cX9_seatTable 4 = .ok (.aload_n 0, 1) := by decide +kernel
theorem dX9_seatTable_5 : decode cX9_seatTable 5 = .ok (.getfield 11, 3) := by decide +kernel
theorem dX9_seatTable_8 : decode cX9_seatTable 8 = .ok (.iload_n 1, 1) := by decide +kernel
theorem dX9_seatTable_9 : decode cX9_seatTable 9 = .ok (.aaload, 1) := by decide +kernel
theorem dX9_seatTable_10 : decode cX9_seatTable 10 = .ok (.aload_n 0, 1) := by decide +kernel
theorem dX9_seatTable_11 : decode cX9_seatTable 11 = .ok (.getfield 20, 3) := by decide +kernel
theorem dX9_seatTable_14 : decode cX9_seatTable 14 = .ok (.iconst 0, 1) := by decide +kernel
theorem dX9_seatTable_15 : decode cX9_seatTable 15 = .ok (.aaload, 1) := by decide +kernel
theorem dX9_seatTable_16 : decode cX9_seatTable 16 = .ok (.getfield 156, 3) := by decide +kernel
theorem dX9_seatTable_19 : decode cX9_seatTable 19 = .ok (.invokevirtual 420, 3) := by decide +kernel
theorem dX9_seatTable_22 : decode cX9_seatTable 22 = .ok (.iconst 0, 1) := by decide +kernel
theorem dX9_seatTable_23 : decode cX9_seatTable 23 = .ok (.istore_n 2, 1) := by decide +kernel
theorem dX9_seatTable_24 : decode cX9_seatTable 24 = .ok (.iload_n 2, 1) := by decide +kernel
theorem dX9_seatTable_25 : decode cX9_seatTable 25 = .ok (.aload_n 0, 1) := by decide +kernel
theorem dX9_seatTable_26 : decode cX9_seatTable 26 = .ok (.getfield 60, 3) := by decide +kernel
theorem dX9_seatTable_29 : decode cX9_seatTable 29 = .ok (.getfield 269, 3) := by decide +kernel
theorem dX9_seatTable_32 : decode cX9_seatTable 32 = .ok (.if_icmp .ge 41, 3) := by decide +kernel
theorem dX9_seatTable_35 : decode cX9_seatTable 35 = .ok (.aload_n 0, 1) := by decide +kernel
theorem dX9_seatTable_36 : decode cX9_seatTable 36 = .ok (.aload_n 0, 1) := by decide +kernel
theorem dX9_seatTable_37 : decode cX9_seatTable 37 = .ok (.getfield 60, 3) := by decide +kernel
theorem dX9_seatTable_40 : decode cX9_seatTable 40 = .ok (.getfield 424, 3) := by decide +kernel
theorem dX9_seatTable_43 : decode cX9_seatTable 43 = .ok (.iload_n 2, 1) := by decide +kernel
theorem dX9_seatTable_44 : decode cX9_seatTable 44 = .ok (.iaload, 1) := by decide +kernel
theorem dX9_seatTable_45 : decode cX9_seatTable 45 = .ok (.aload_n 0, 1) := by decide +kernel
theorem dX9_seatTable_46 : decode cX9_seatTable 46 = .ok (.getfield 60, 3) := by decide +kernel
theorem dX9_seatTable_49 : decode cX9_seatTable 49 = .ok (.getfield 424, 3) := by decide +kernel
theorem dX9_seatTable_52 : decode cX9_seatTable 52 = .ok (.iload_n 2, 1) := by decide +kernel
theorem dX9_seatTable_53 : decode cX9_seatTable 53 = .ok (.iconst 1, 1) := by decide +kernel
theorem dX9_seatTable_54 : decode cX9_seatTable 54 = .ok (.iadd, 1) := by decide +kernel
theorem dX9_seatTable_55 : decode cX9_seatTable 55 = .ok (.aload_n 0, 1) := by decide +kernel
theorem dX9_seatTable_56 : decode cX9_seatTable 56 = .ok (.getfield 60, 3) := by decide +kernel
theorem dX9_seatTable_59 : decode cX9_seatTable 59 = .ok (.getfield 269, 3) := by decide +kernel
theorem dX9_seatTable_62 : decode cX9_seatTable 62 = .ok (.irem, 1) := by decide +kernel
theorem dX9_seatTable_63 : decode cX9_seatTable 63 = .ok (.iaload, 1) := by decide +kernel
theorem dX9_seatTable_64 : decode cX9_seatTable 64 = .ok (.invokevirtual 427, 3) := by decide +kernel
theorem dX9_seatTable_67 : decode cX9_seatTable 67 = .ok (.iinc 2 1, 3) := by decide +kernel
theorem dX9_seatTable_70 : decode cX9_seatTable 70 = .ok (.goto (-46), 3) := by decide +kernel
theorem dX9_seatTable_73 : decode cX9_seatTable 73 = .ok (.return_, 1) := by decide +kernel
theorem dX9_learnAllSteps_0 : decode cX9_learnAllSteps 0 = .ok (.iconst 0, 1) := by decide +kernel
theorem dX9_learnAllSteps_1 : decode cX9_learnAllSteps 1 = .ok (.istore_n 1, 1) := by decide +kernel
theorem dX9_learnAllSteps_2 : decode cX9_learnAllSteps 2 = .ok (.iload_n 1, 1) := by decide +kernel
theorem dX9_learnAllSteps_3 : decode cX9_learnAllSteps 3 = .ok (.aload_n 0, 1) := by decide +kernel
theorem dX9_learnAllSteps_4 : decode cX9_learnAllSteps 4 = .ok (.getfield 60, 3) := by decide +kernel
theorem dX9_learnAllSteps_7 : decode cX9_learnAllSteps 7 = .ok (.getfield 269, 3) := by decide +kernel
theorem dX9_learnAllSteps_10 : decode cX9_learnAllSteps 10 = .ok (.if_icmp .ge 55, 3) := by decide +kernel
theorem dX9_learnAllSteps_13 : decode cX9_learnAllSteps 13 = .ok (.iconst 0, 1) := by decide +kernel
theorem dX9_learnAllSteps_14 : decode cX9_learnAllSteps 14 = .ok (.istore_n 2, 1) := by decide +kernel
theorem dX9_learnAllSteps_15 : decode cX9_learnAllSteps 15 = .ok (.iload_n 2, 1) := by decide +kernel
theorem dX9_learnAllSteps_16 : decode cX9_learnAllSteps 16 = .ok (.aload_n 0, 1) := by decide +kernel
theorem dX9_learnAllSteps_17 : decode cX9_learnAllSteps 17 = .ok (.getfield 60, 3) := by decide +kernel
theorem dX9_learnAllSteps_20 : decode cX9_learnAllSteps 20 = .ok (.getfield 269, 3) := by decide +kernel
theorem dX9_learnAllSteps_23 : decode cX9_learnAllSteps 23 = .ok (.if_icmp .ge 36, 3) := by decide +kernel
theorem dX9_learnAllSteps_26 : decode cX9_learnAllSteps 26 = .ok (.iload_n 1, 1) := by decide +kernel
theorem dX9_learnAllSteps_27 : decode cX9_learnAllSteps 27 = .ok (.iload_n 2, 1) := by decide +kernel
theorem dX9_learnAllSteps_28 : decode cX9_learnAllSteps 28 = .ok (.if_icmp .eq 25, 3) := by decide +kernel
theorem dX9_learnAllSteps_31 : decode cX9_learnAllSteps 31 = .ok (.aload_n 0, 1) := by decide +kernel
theorem dX9_learnAllSteps_32 : decode cX9_learnAllSteps 32 = .ok (.aload_n 0, 1) := by decide +kernel
theorem dX9_learnAllSteps_33 : decode cX9_learnAllSteps 33 = .ok (.getfield 60, 3) := by decide +kernel
theorem dX9_learnAllSteps_36 : decode cX9_learnAllSteps 36 = .ok (.getfield 424, 3) := by decide +kernel
theorem dX9_learnAllSteps_39 : decode cX9_learnAllSteps 39 = .ok (.iload_n 1, 1) := by decide +kernel
theorem dX9_learnAllSteps_40 : decode cX9_learnAllSteps 40 = .ok (.iaload, 1) := by decide +kernel
theorem dX9_learnAllSteps_41 : decode cX9_learnAllSteps 41 = .ok (.aload_n 0, 1) := by decide +kernel
theorem dX9_learnAllSteps_42 : decode cX9_learnAllSteps 42 = .ok (.getfield 60, 3) := by decide +kernel
theorem dX9_learnAllSteps_45 : decode cX9_learnAllSteps 45 = .ok (.getfield 424, 3) := by decide +kernel
theorem dX9_learnAllSteps_48 : decode cX9_learnAllSteps 48 = .ok (.iload_n 2, 1) := by decide +kernel
theorem dX9_learnAllSteps_49 : decode cX9_learnAllSteps 49 = .ok (.iaload, 1) := by decide +kernel
theorem dX9_learnAllSteps_50 : decode cX9_learnAllSteps 50 = .ok (.invokevirtual 427, 3) := by decide +kernel
theorem dX9_learnAllSteps_53 : decode cX9_learnAllSteps 53 = .ok (.iinc 2 1, 3) := by decide +kernel
theorem dX9_learnAllSteps_56 : decode cX9_learnAllSteps 56 = .ok (.goto (-41), 3) := by decide +kernel
theorem dX9_learnAllSteps_59 : decode cX9_learnAllSteps 59 = .ok (.iinc 1 1, 3) := by decide +kernel
theorem dX9_learnAllSteps_62 : decode cX9_learnAllSteps 62 = .ok (.goto (-60), 3) := by decide +kernel
theorem dX9_learnAllSteps_65 : decode cX9_learnAllSteps 65 = .ok (.return_, 1) := by decide +kernel
theorem dX9_learnStep_0 : decode cX9_learnStep 0 = .ok (.aload_n 0, 1) := by decide +kernel
theorem dX9_learnStep_1 : decode cX9_learnStep 1 = .ok (.iload_n 1, 1) := by decide +kernel
theorem dX9_learnStep_2 : decode cX9_learnStep 2 = .ok (.invokevirtual 176, 3) := by decide +kernel
theorem dX9_learnStep_5 : decode cX9_learnStep 5 = .ok (.ifCond .eq 11, 3) := by decide +kernel
theorem dX9_learnStep_8 : decode cX9_learnStep 8 = .ok (.aload_n 0, 1) := by decide +kernel
theorem dX9_learnStep_9 : decode cX9_learnStep 9 = .ok (.iload_n 2, 1) := by decide +kernel
theorem dX9_learnStep_10 : decode cX9_learnStep 10 = .ok (.invokevirtual 176, 3) := by decide +kernel
theorem dX9_learnStep_13 : decode cX9_learnStep 13 = .ok (.ifCond .ne 4, 3) := by decide +kernel
theorem dX9_learnStep_16 : decode cX9_learnStep 16 = .ok (.return_, 1) := by decide +kernel
theorem dX9_learnStep_17 : decode cX9_learnStep 17 = .ok (.iconst 0, 1) := by decide +kernel
theorem dX9_learnStep_18 : decode cX9_learnStep 18 = .ok (.istore_n 3, 1) := by decide +kernel
theorem dX9_learnStep_19 : decode cX9_learnStep 19 = .ok (.iload_n 3, 1) := by decide +kernel
theorem dX9_learnStep_20 : decode cX9_learnStep 20 = .ok (.aload_n 0, 1) := by decide +kernel
theorem dX9_learnStep_21 : decode cX9_learnStep 21 = .ok (.getfield 60, 3) := by decide +kernel
theorem dX9_learnStep_24 : decode cX9_learnStep 24 = .ok (.getfield 256, 3) := by decide +kernel
theorem dX9_learnStep_27 : decode cX9_learnStep 27 = .ok (.if_icmp .ge 60, 3) := by decide +kernel
theorem dX9_learnStep_30 : decode cX9_learnStep 30 = .ok (.aload_n 0, 1) := by decide +kernel
theorem dX9_learnStep_31 : decode cX9_learnStep 31 = .ok (.getfield 46, 3) := by decide +kernel
theorem dX9_learnStep_34 : decode cX9_learnStep 34 = .ok (.aload_n 0, 1) := by decide +kernel
theorem dX9_learnStep_35 : decode cX9_learnStep 35 = .ok (.getfield 26, 3) := by decide +kernel
theorem dX9_learnStep_38 : decode cX9_learnStep 38 = .ok (.iload_n 1, 1) := by decide +kernel
theorem dX9_learnStep_39 : decode cX9_learnStep 39 = .ok (.aaload, 1) := by decide +kernel
theorem dX9_learnStep_40 : decode cX9_learnStep 40 = .ok (.iload_n 3, 1) := by decide +kernel
theorem dX9_learnStep_41 : decode cX9_learnStep 41 = .ok (.invokevirtual 185, 3) := by decide +kernel
theorem dX9_learnStep_44 : decode cX9_learnStep 44 = .ok (.aload_n 0, 1) := by decide +kernel
theorem dX9_learnStep_45 : decode cX9_learnStep 45 = .ok (.getfield 53, 3) := by decide +kernel
theorem dX9_learnStep_48 : decode cX9_learnStep 48 = .ok (.aload_n 0, 1) := by decide +kernel
theorem dX9_learnStep_49 : decode cX9_learnStep 49 = .ok (.getfield 26, 3) := by decide +kernel
theorem dX9_learnStep_52 : decode cX9_learnStep 52 = .ok (.iload_n 2, 1) := by decide +kernel
theorem dX9_learnStep_53 : decode cX9_learnStep 53 = .ok (.aaload, 1) := by decide +kernel
theorem dX9_learnStep_54 : decode cX9_learnStep 54 = .ok (.aload_n 0, 1) := by decide +kernel
theorem dX9_learnStep_55 : decode cX9_learnStep 55 = .ok (.getfield 46, 3) := by decide +kernel
theorem dX9_learnStep_58 : decode cX9_learnStep 58 = .ok (.aload_n 0, 1) := by decide +kernel
theorem dX9_learnStep_59 : decode cX9_learnStep 59 = .ok (.getfield 26, 3) := by decide +kernel
theorem dX9_learnStep_62 : decode cX9_learnStep 62 = .ok (.iload_n 1, 1) := by decide +kernel
theorem dX9_learnStep_63 : decode cX9_learnStep 63 = .ok (.aaload, 1) := by decide +kernel
theorem dX9_learnStep_64 : decode cX9_learnStep 64 = .ok (.invokevirtual 225, 3) := by decide +kernel
theorem dX9_learnStep_67 : decode cX9_learnStep 67 = .ok (.aload_n 0, 1) := by decide +kernel
theorem dX9_learnStep_68 : decode cX9_learnStep 68 = .ok (.getfield 60, 3) := by decide +kernel
theorem dX9_learnStep_71 : decode cX9_learnStep 71 = .ok (.iload_n 1, 1) := by decide +kernel
theorem dX9_learnStep_72 : decode cX9_learnStep 72 = .ok (.iload_n 2, 1) := by decide +kernel
theorem dX9_learnStep_73 : decode cX9_learnStep 73 = .ok (.iload_n 3, 1) := by decide +kernel
theorem dX9_learnStep_74 : decode cX9_learnStep 74 = .ok (.aload_n 0, 1) := by decide +kernel
theorem dX9_learnStep_75 : decode cX9_learnStep 75 = .ok (.getfield 53, 3) := by decide +kernel
theorem dX9_learnStep_78 : decode cX9_learnStep 78 = .ok (.invokevirtual 430, 3) := by decide +kernel
theorem dX9_learnStep_81 : decode cX9_learnStep 81 = .ok (.iinc 3 1, 3) := by decide +kernel
theorem dX9_learnStep_84 : decode cX9_learnStep 84 = .ok (.goto (-65), 3) := by decide +kernel
theorem dX9_learnStep_87 : decode cX9_learnStep 87 = .ok (.return_, 1) := by decide +kernel
theorem dX9_addLeaf_0 : decode cX9_addLeaf 0 = .ok (.aload_n 0, 1) := by decide +kernel
theorem dX9_addLeaf_1 : decode cX9_addLeaf 1 = .ok (.getfield 11, 3) := by decide +kernel
theorem dX9_addLeaf_4 : decode cX9_addLeaf 4 = .ok (.iload 4, 2) := by decide +kernel
theorem dX9_addLeaf_6 : decode cX9_addLeaf 6 = .ok (.aaload, 1) := by decide +kernel
theorem dX9_addLeaf_7 : decode cX9_addLeaf 7 = .ok (.invokevirtual 216, 3) := by decide +kernel
theorem dX9_addLeaf_10 : decode cX9_addLeaf 10 = .ok (.istore 6, 2) := by decide +kernel
theorem dX9_addLeaf_12 : decode cX9_addLeaf 12 = .ok (.iload 6, 2) := by decide +kernel
theorem dX9_addLeaf_14 : decode cX9_addLeaf 14 = .ok (.ifCond .eq 13, 3) := by decide +kernel
theorem dX9_addLeaf_17 : decode cX9_addLeaf 17 = .ok (.aload_n 0, 1) := by decide +kernel
theorem dX9_addLeaf_18 : decode cX9_addLeaf 18 = .ok (.getfield 39, 3) := by decide +kernel
theorem dX9_addLeaf_21 : decode cX9_addLeaf 21 = .ok (.iload 6, 2) := by decide +kernel
theorem dX9_addLeaf_23 : decode cX9_addLeaf 23 = .ok (.invokevirtual 87, 3) := by decide +kernel
theorem dX9_addLeaf_26 : decode cX9_addLeaf 26 = .ok (.ireturn, 1) := by decide +kernel
theorem dX9_addLeaf_27 : decode cX9_addLeaf 27 = .ok (.aload_n 0, 1) := by decide +kernel
theorem dX9_addLeaf_28 : decode cX9_addLeaf 28 = .ok (.getfield 153, 3) := by decide +kernel
theorem dX9_addLeaf_31 : decode cX9_addLeaf 31 = .ok (.bipush 12, 2) := by decide +kernel
theorem dX9_addLeaf_33 : decode cX9_addLeaf 33 = .ok (.if_icmp .lt 6, 3) := by decide +kernel
theorem dX9_addLeaf_36 : decode cX9_addLeaf 36 = .ok (.bipush (-2), 2) := by decide +kernel
theorem dX9_addLeaf_38 : decode cX9_addLeaf 38 = .ok (.ireturn, 1) := by decide +kernel
theorem dX9_addLeaf_39 : decode cX9_addLeaf 39 = .ok (.aload_n 0, 1) := by decide +kernel
theorem dX9_addLeaf_40 : decode cX9_addLeaf 40 = .ok (.getfield 32, 3) := by decide +kernel
theorem dX9_addLeaf_43 : decode cX9_addLeaf 43 = .ok (.aload_n 0, 1) := by decide +kernel
theorem dX9_addLeaf_44 : decode cX9_addLeaf 44 = .ok (.getfield 153, 3) := by decide +kernel
theorem dX9_addLeaf_47 : decode cX9_addLeaf 47 = .ok (.aaload, 1) := by decide +kernel
theorem dX9_addLeaf_48 : decode cX9_addLeaf 48 = .ok (.iload_n 1, 1) := by decide +kernel
theorem dX9_addLeaf_49 : decode cX9_addLeaf 49 = .ok (.iload_n 2, 1) := by decide +kernel
theorem dX9_addLeaf_50 : decode cX9_addLeaf 50 = .ok (.iload_n 3, 1) := by decide +kernel
theorem dX9_addLeaf_51 : decode cX9_addLeaf 51 = .ok (.aload_n 0, 1) := by decide +kernel
theorem dX9_addLeaf_52 : decode cX9_addLeaf 52 = .ok (.getfield 11, 3) := by decide +kernel
theorem dX9_addLeaf_55 : decode cX9_addLeaf 55 = .ok (.iload 4, 2) := by decide +kernel
theorem dX9_addLeaf_57 : decode cX9_addLeaf 57 = .ok (.aaload, 1) := by decide +kernel
theorem dX9_addLeaf_58 : decode cX9_addLeaf 58 = .ok (.iload 5, 2) := by decide +kernel
theorem dX9_addLeaf_60 : decode cX9_addLeaf 60 = .ok (.invokevirtual 433, 3) := by decide +kernel
theorem dX9_addLeaf_63 : decode cX9_addLeaf 63 = .ok (.aload_n 0, 1) := by decide +kernel
theorem dX9_addLeaf_64 : decode cX9_addLeaf 64 = .ok (.dup, 1) := by decide +kernel
theorem dX9_addLeaf_65 : decode cX9_addLeaf 65 = .ok (.getfield 153, 3) := by decide +kernel
theorem dX9_addLeaf_68 : decode cX9_addLeaf 68 = .ok (.iconst 1, 1) := by decide +kernel
theorem dX9_addLeaf_69 : decode cX9_addLeaf 69 = .ok (.iadd, 1) := by decide +kernel
theorem dX9_addLeaf_70 : decode cX9_addLeaf 70 = .ok (.putfield 153, 3) := by decide +kernel
theorem dX9_addLeaf_73 : decode cX9_addLeaf 73 = .ok (.aload_n 0, 1) := by decide +kernel
theorem dX9_addLeaf_74 : decode cX9_addLeaf 74 = .ok (.getfield 153, 3) := by decide +kernel
theorem dX9_addLeaf_77 : decode cX9_addLeaf 77 = .ok (.iconst 1, 1) := by decide +kernel
theorem dX9_addLeaf_78 : decode cX9_addLeaf 78 = .ok (.isub, 1) := by decide +kernel
theorem dX9_addLeaf_79 : decode cX9_addLeaf 79 = .ok (.ireturn, 1) := by decide +kernel
theorem dX9_leavesOf_0 : decode cX9_leavesOf 0 = .ok (.iconst 0, 1) := by decide +kernel
theorem dX9_leavesOf_1 : decode cX9_leavesOf 1 = .ok (.istore_n 3, 1) := by decide +kernel
theorem dX9_leavesOf_2 : decode cX9_leavesOf 2 = .ok (.iconst 0, 1) := by decide +kernel
theorem dX9_leavesOf_3 : decode cX9_leavesOf 3 = .ok (.istore 4, 2) := by decide +kernel
theorem dX9_leavesOf_5 : decode cX9_leavesOf 5 = .ok (.iload 4, 2) := by decide +kernel
theorem dX9_leavesOf_7 : decode cX9_leavesOf 7 = .ok (.aload_n 0, 1) := by decide +kernel
theorem dX9_leavesOf_8 : decode cX9_leavesOf 8 = .ok (.getfield 153, 3) := by decide +kernel
theorem dX9_leavesOf_11 : decode cX9_leavesOf 11 = .ok (.if_icmp .ge 27, 3) := by decide +kernel
theorem dX9_leavesOf_14 : decode cX9_leavesOf 14 = .ok (.aload_n 0, 1) := by decide +kernel
theorem dX9_leavesOf_15 : decode cX9_leavesOf 15 = .ok (.getfield 32, 3) := by decide +kernel
theorem dX9_leavesOf_18 : decode cX9_leavesOf 18 = .ok (.iload 4, 2) := by decide +kernel
theorem dX9_leavesOf_20 : decode cX9_leavesOf 20 = .ok (.aaload, 1) := by decide +kernel
theorem dX9_leavesOf_21 : decode cX9_leavesOf 21 = .ok (.iload_n 1, 1) := by decide +kernel
theorem dX9_leavesOf_22 : decode cX9_leavesOf 22 = .ok (.iload_n 2, 1) := by decide +kernel
theorem dX9_leavesOf_23 : decode cX9_leavesOf 23 = .ok (.invokevirtual 437, 3) := by decide +kernel
theorem dX9_leavesOf_26 : decode cX9_leavesOf 26 = .ok (.ifCond .eq 6, 3) := by decide +kernel
theorem dX9_leavesOf_29 : decode cX9_leavesOf 29 = .ok (.iinc 3 1, 3) := by decide +kernel
theorem dX9_leavesOf_32 : decode cX9_leavesOf 32 = .ok (.iinc 4 1, 3) := by decide +kernel
theorem dX9_leavesOf_35 : decode cX9_leavesOf 35 = .ok (.goto (-30), 3) := by decide +kernel
theorem dX9_leavesOf_38 : decode cX9_leavesOf 38 = .ok (.iload_n 3, 1) := by decide +kernel
theorem dX9_leavesOf_39 : decode cX9_leavesOf 39 = .ok (.ireturn, 1) := by decide +kernel
theorem dX9_guessLeaves_0 : decode cX9_guessLeaves 0 = .ok (.iconst 0, 1) := by decide +kernel
theorem dX9_guessLeaves_1 : decode cX9_guessLeaves 1 = .ok (.istore_n 1, 1) := by decide +kernel
theorem dX9_guessLeaves_2 : decode cX9_guessLeaves 2 = .ok (.iconst 0, 1) := by decide +kernel
theorem dX9_guessLeaves_3 : decode cX9_guessLeaves 3 = .ok (.istore_n 2, 1) := by decide +kernel
theorem dX9_guessLeaves_4 : decode cX9_guessLeaves 4 = .ok (.iload_n 2, 1) := by decide +kernel
theorem dX9_guessLeaves_5 : decode cX9_guessLeaves 5 = .ok (.aload_n 0, 1) := by decide +kernel
theorem dX9_guessLeaves_6 : decode cX9_guessLeaves 6 = .ok (.getfield 153, 3) := by decide +kernel
theorem dX9_guessLeaves_9 : decode cX9_guessLeaves 9 = .ok (.if_icmp .ge 24, 3) := by decide +kernel
theorem dX9_guessLeaves_12 : decode cX9_guessLeaves 12 = .ok (.aload_n 0, 1) := by decide +kernel
theorem dX9_guessLeaves_13 : decode cX9_guessLeaves 13 = .ok (.getfield 32, 3) := by decide +kernel
theorem dX9_guessLeaves_16 : decode cX9_guessLeaves 16 = .ok (.iload_n 2, 1) := by decide +kernel
theorem dX9_guessLeaves_17 : decode cX9_guessLeaves 17 = .ok (.aaload, 1) := by decide +kernel
theorem dX9_guessLeaves_18 : decode cX9_guessLeaves 18 = .ok (.getfield 350, 3) := by decide +kernel
theorem dX9_guessLeaves_21 : decode cX9_guessLeaves 21 = .ok (.ifCond .eq 6, 3) := by decide +kernel
theorem dX9_guessLeaves_24 : decode cX9_guessLeaves 24 = .ok (.iinc 1 1, 3) := by decide +kernel
theorem dX9_guessLeaves_27 : decode cX9_guessLeaves 27 = .ok (.iinc 2 1, 3) := by decide +kernel
theorem dX9_guessLeaves_30 : decode cX9_guessLeaves 30 = .ok (.goto (-26), 3) := by decide +kernel
theorem dX9_guessLeaves_33 : decode cX9_guessLeaves 33 = .ok (.iload_n 1, 1) := by decide +kernel
theorem dX9_guessLeaves_34 : decode cX9_guessLeaves 34 = .ok (.ireturn, 1) := by decide +kernel
theorem dX9_handOff_0 : decode cX9_handOff 0 = .ok (.aload_n 0, 1) := by decide +kernel
theorem dX9_handOff_1 : decode cX9_handOff 1 = .ok (.getfield 79, 3) := by decide +kernel
theorem dX9_handOff_4 : decode cX9_handOff 4 = .ok (.aload_n 0, 1) := by decide +kernel
theorem dX9_handOff_5 : decode cX9_handOff 5 = .ok (.getfield 26, 3) := by decide +kernel
theorem dX9_handOff_8 : decode cX9_handOff 8 = .ok (.iload_n 1, 1) := by decide +kernel
theorem dX9_handOff_9 : decode cX9_handOff 9 = .ok (.aaload, 1) := by decide +kernel
theorem dX9_handOff_10 : decode cX9_handOff 10 = .ok (.iload_n 2, 1) := by decide +kernel
theorem dX9_handOff_11 : decode cX9_handOff 11 = .ok (.invokevirtual 441, 3) := by decide +kernel
theorem dX9_handOff_14 : decode cX9_handOff 14 = .ok (.iconst 0, 1) := by decide +kernel
theorem dX9_handOff_15 : decode cX9_handOff 15 = .ok (.istore_n 3, 1) := by decide +kernel
theorem dX9_handOff_16 : decode cX9_handOff 16 = .ok (.iconst 0, 1) := by decide +kernel
theorem dX9_handOff_17 : decode cX9_handOff 17 = .ok (.istore 4, 2) := by decide +kernel
theorem dX9_handOff_19 : decode cX9_handOff 19 = .ok (.iload 4, 2) := by decide +kernel
theorem dX9_handOff_21 : decode cX9_handOff 21 = .ok (.aload_n 0, 1) := by decide +kernel
theorem dX9_handOff_22 : decode cX9_handOff 22 = .ok (.getfield 153, 3) := by decide +kernel
theorem dX9_handOff_25 : decode cX9_handOff 25 = .ok (.if_icmp .ge 65, 3) := by decide +kernel
theorem dX9_handOff_28 : decode cX9_handOff 28 = .ok (.aload_n 0, 1) := by decide +kernel
theorem dX9_handOff_29 : decode cX9_handOff 29 = .ok (.getfield 32, 3) := by decide +kernel
theorem dX9_handOff_32 : decode cX9_handOff 32 = .ok (.iload 4, 2) := by decide +kernel
theorem dX9_handOff_34 : decode cX9_handOff 34 = .ok (.aaload, 1) := by decide +kernel
theorem dX9_handOff_35 : decode cX9_handOff 35 = .ok (.iload_n 1, 1) := by decide +kernel
theorem dX9_handOff_36 : decode cX9_handOff 36 = .ok (.iconst 0, 1) := by decide +kernel
theorem dX9_handOff_37 : decode cX9_handOff 37 = .ok (.invokevirtual 437, 3) := by decide +kernel
theorem dX9_handOff_40 : decode cX9_handOff 40 = .ok (.ifCond .eq 44, 3) := by decide +kernel
theorem dX9_handOff_43 : decode cX9_handOff 43 = .ok (.aload_n 0, 1) := by decide +kernel
theorem dX9_handOff_44 : decode cX9_handOff 44 = .ok (.getfield 46, 3) := by decide +kernel
theorem dX9_handOff_47 : decode cX9_handOff 47 = .ok (.aload_n 0, 1) := by decide +kernel
theorem dX9_handOff_48 : decode cX9_handOff 48 = .ok (.getfield 79, 3) := by decide +kernel
theorem dX9_handOff_51 : decode cX9_handOff 51 = .ok (.aload_n 0, 1) := by decide +kernel
theorem dX9_handOff_52 : decode cX9_handOff 52 = .ok (.getfield 32, 3) := by decide +kernel
theorem dX9_handOff_55 : decode cX9_handOff 55 = .ok (.iload 4, 2) := by decide +kernel
theorem dX9_handOff_57 : decode cX9_handOff 57 = .ok (.aaload, 1) := by decide +kernel
theorem dX9_handOff_58 : decode cX9_handOff 58 = .ok (.getfield 344, 3) := by decide +kernel
theorem dX9_handOff_61 : decode cX9_handOff 61 = .ok (.invokevirtual 185, 3) := by decide +kernel
theorem dX9_handOff_64 : decode cX9_handOff 64 = .ok (.iload_n 3, 1) := by decide +kernel
theorem dX9_handOff_65 : decode cX9_handOff 65 = .ok (.aload_n 0, 1) := by decide +kernel
theorem dX9_handOff_66 : decode cX9_handOff 66 = .ok (.getfield 32, 3) := by decide +kernel
theorem dX9_handOff_69 : decode cX9_handOff 69 = .ok (.iload 4, 2) := by decide +kernel
theorem dX9_handOff_71 : decode cX9_handOff 71 = .ok (.aaload, 1) := by decide +kernel
theorem dX9_handOff_72 : decode cX9_handOff 72 = .ok (.aload_n 0, 1) := by decide +kernel
theorem dX9_handOff_73 : decode cX9_handOff 73 = .ok (.getfield 46, 3) := by decide +kernel
theorem dX9_handOff_76 : decode cX9_handOff 76 = .ok (.invokevirtual 415, 3) := by decide +kernel
theorem dX9_handOff_79 : decode cX9_handOff 79 = .ok (.invokevirtual 341, 3) := by decide +kernel
theorem dX9_handOff_82 : decode cX9_handOff 82 = .ok (.iadd, 1) := by decide +kernel
theorem dX9_handOff_83 : decode cX9_handOff 83 = .ok (.istore_n 3, 1) := by decide +kernel
theorem dX9_handOff_84 : decode cX9_handOff 84 = .ok (.iinc 4 1, 3) := by decide +kernel
theorem dX9_handOff_87 : decode cX9_handOff 87 = .ok (.goto (-68), 3) := by decide +kernel
theorem dX9_handOff_90 : decode cX9_handOff 90 = .ok (.iload_n 3, 1) := by decide +kernel
theorem dX9_handOff_91 : decode cX9_handOff 91 = .ok (.ireturn, 1) := by decide +kernel
theorem dX9_likelihood_0 : decode cX9_likelihood 0 = .ok (.aload_n 0, 1) := by decide +kernel
theorem dX9_likelihood_1 : decode cX9_likelihood 1 = .ok (.getfield 79, 3) := by decide +kernel
theorem dX9_likelihood_4 : decode cX9_likelihood 4 = .ok (.aload_n 0, 1) := by decide +kernel
theorem dX9_likelihood_5 : decode cX9_likelihood 5 = .ok (.getfield 26, 3) := by decide +kernel
theorem dX9_likelihood_8 : decode cX9_likelihood 8 = .ok (.iload_n 1, 1) := by decide +kernel
theorem dX9_likelihood_9 : decode cX9_likelihood 9 = .ok (.aaload, 1) := by decide +kernel
theorem dX9_likelihood_10 : decode cX9_likelihood 10 = .ok (.iload_n 2, 1) := by decide +kernel
theorem dX9_likelihood_11 : decode cX9_likelihood 11 = .ok (.invokevirtual 441, 3) := by decide +kernel
theorem dX9_likelihood_14 : decode cX9_likelihood 14 = .ok (.lconst 1, 1) := by decide +kernel
theorem dX9_likelihood_15 : decode cX9_likelihood 15 = .ok (.lstore_n 3, 1) := by decide +kernel
theorem dX9_likelihood_16 : decode cX9_likelihood 16 = .ok (.iconst 0, 1) := by decide +kernel
theorem dX9_likelihood_17 : decode cX9_likelihood 17 = .ok (.istore 5, 2) := by decide +kernel
theorem dX9_likelihood_19 : decode cX9_likelihood 19 = .ok (.iload 5, 2) := by decide +kernel
theorem dX9_likelihood_21 : decode cX9_likelihood 21 = .ok (.aload_n 0, 1) := by decide +kernel
theorem dX9_likelihood_22 : decode cX9_likelihood 22 = .ok (.getfield 153, 3) := by decide +kernel
theorem dX9_likelihood_25 : decode cX9_likelihood 25 = .ok (.if_icmp .ge 80, 3) := by decide +kernel
theorem dX9_likelihood_28 : decode cX9_likelihood 28 = .ok (.aload_n 0, 1) := by decide +kernel
theorem dX9_likelihood_29 : decode cX9_likelihood 29 = .ok (.getfield 32, 3) := by decide +kernel
theorem dX9_likelihood_32 : decode cX9_likelihood 32 = .ok (.iload 5, 2) := by decide +kernel
theorem dX9_likelihood_34 : decode cX9_likelihood 34 = .ok (.aaload, 1) := by decide +kernel
theorem dX9_likelihood_35 : decode cX9_likelihood 35 = .ok (.iload_n 1, 1) := by decide +kernel
theorem dX9_likelihood_36 : decode cX9_likelihood 36 = .ok (.iconst 1, 1) := by decide +kernel
theorem dX9_likelihood_37 : decode cX9_likelihood 37 = .ok (.invokevirtual 437, 3) := by decide +kernel
theorem dX9_likelihood_40 : decode cX9_likelihood 40 = .ok (.ifCond .eq 59, 3) := by decide +kernel
theorem dX9_likelihood_43 : decode cX9_likelihood 43 = .ok (.aload_n 0, 1) := by decide +kernel
theorem dX9_likelihood_44 : decode cX9_likelihood 44 = .ok (.getfield 53, 3) := by decide +kernel
theorem dX9_likelihood_47 : decode cX9_likelihood 47 = .ok (.aload_n 0, 1) := by decide +kernel
theorem dX9_likelihood_48 : decode cX9_likelihood 48 = .ok (.getfield 79, 3) := by decide +kernel
theorem dX9_likelihood_51 : decode cX9_likelihood 51 = .ok (.aload_n 0, 1) := by decide +kernel
theorem dX9_likelihood_52 : decode cX9_likelihood 52 = .ok (.getfield 32, 3) := by decide +kernel
theorem dX9_likelihood_55 : decode cX9_likelihood 55 = .ok (.iload 5, 2) := by decide +kernel
theorem dX9_likelihood_57 : decode cX9_likelihood 57 = .ok (.aaload, 1) := by decide +kernel
theorem dX9_likelihood_58 : decode cX9_likelihood 58 = .ok (.getfield 444, 3) := by decide +kernel
theorem dX9_likelihood_61 : decode cX9_likelihood 61 = .ok (.aload_n 0, 1) := by decide +kernel
theorem dX9_likelihood_62 : decode cX9_likelihood 62 = .ok (.aload_n 0, 1) := by decide +kernel
theorem dX9_likelihood_63 : decode cX9_likelihood 63 = .ok (.getfield 32, 3) := by decide +kernel
theorem dX9_likelihood_66 : decode cX9_likelihood 66 = .ok (.iload 5, 2) := by decide +kernel
theorem dX9_likelihood_68 : decode cX9_likelihood 68 = .ok (.aaload, 1) := by decide +kernel
theorem dX9_likelihood_69 : decode cX9_likelihood 69 = .ok (.getfield 447, 3) := by decide +kernel
theorem dX9_likelihood_72 : decode cX9_likelihood 72 = .ok (.invokevirtual 221, 3) := by decide +kernel
theorem dX9_likelihood_75 : decode cX9_likelihood 75 = .ok (.invokevirtual 225, 3) := by decide +kernel
theorem dX9_likelihood_78 : decode cX9_likelihood 78 = .ok (.lload_n 3, 1) := by decide +kernel
theorem dX9_likelihood_79 : decode cX9_likelihood 79 = .ok (.aload_n 0, 1) := by decide +kernel
theorem dX9_likelihood_80 : decode cX9_likelihood 80 = .ok (.getfield 53, 3) := by decide +kernel
theorem dX9_likelihood_83 : decode cX9_likelihood 83 = .ok (.aload_n 0, 1) := by decide +kernel
theorem dX9_likelihood_84 : decode cX9_likelihood 84 = .ok (.getfield 32, 3) := by decide +kernel
theorem dX9_likelihood_87 : decode cX9_likelihood 87 = .ok (.iload 5, 2) := by decide +kernel
theorem dX9_likelihood_89 : decode cX9_likelihood 89 = .ok (.aaload, 1) := by decide +kernel
theorem dX9_likelihood_90 : decode cX9_likelihood 90 = .ok (.getfield 344, 3) := by decide +kernel
theorem dX9_likelihood_93 : decode cX9_likelihood 93 = .ok (.invokevirtual 197, 3) := by decide +kernel
theorem dX9_likelihood_96 : decode cX9_likelihood 96 = .ok (.i2l, 1) := by decide +kernel
theorem dX9_likelihood_97 : decode cX9_likelihood 97 = .ok (.lmul, 1) := by decide +kernel
theorem dX9_likelihood_98 : decode cX9_likelihood 98 = .ok (.lstore_n 3, 1) := by decide +kernel
theorem dX9_likelihood_99 : decode cX9_likelihood 99 = .ok (.iinc 5 1, 3) := by decide +kernel
theorem dX9_likelihood_102 : decode cX9_likelihood 102 = .ok (.goto (-83), 3) := by decide +kernel
theorem dX9_likelihood_105 : decode cX9_likelihood 105 = .ok (.lload_n 3, 1) := by decide +kernel
theorem dX9_likelihood_106 : decode cX9_likelihood 106 = .ok (.lreturn, 1) := by decide +kernel
theorem dX9_nearestLeaf_0 : decode cX9_nearestLeaf 0 = .ok (.bipush (-9), 2) := by decide +kernel
theorem dX9_nearestLeaf_2 : decode cX9_nearestLeaf 2 = .ok (.istore_n 3, 1) := by decide +kernel
theorem dX9_nearestLeaf_3 : decode cX9_nearestLeaf 3 = .ok (.bipush 11, 2) := by decide +kernel
theorem dX9_nearestLeaf_5 : decode cX9_nearestLeaf 5 = .ok (.istore 4, 2) := by decide +kernel
theorem dX9_nearestLeaf_7 : decode cX9_nearestLeaf 7 = .ok (.iconst 0, 1) := by decide +kernel
theorem dX9_nearestLeaf_8 : decode cX9_nearestLeaf 8 = .ok (.istore 5, 2) := by decide +kernel
theorem dX9_nearestLeaf_10 : decode cX9_nearestLeaf 10 = .ok (.iload 5, 2) := by decide +kernel
theorem dX9_nearestLeaf_12 : decode cX9_nearestLeaf 12 = .ok (.aload_n 0, 1) := by decide +kernel
theorem dX9_nearestLeaf_13 : decode cX9_nearestLeaf 13 = .ok (.getfield 153, 3) := by decide +kernel
theorem dX9_nearestLeaf_16 : decode cX9_nearestLeaf 16 = .ok (.if_icmp .ge 60, 3) := by decide +kernel
theorem dX9_nearestLeaf_19 : decode cX9_nearestLeaf 19 = .ok (.aload_n 0, 1) := by decide +kernel
theorem dX9_nearestLeaf_20 : decode cX9_nearestLeaf 20 = .ok (.getfield 32, 3) := by decide +kernel
theorem dX9_nearestLeaf_23 : decode cX9_nearestLeaf 23 = .ok (.iload 5, 2) := by decide +kernel
theorem dX9_nearestLeaf_25 : decode cX9_nearestLeaf 25 = .ok (.aaload, 1) := by decide +kernel
theorem dX9_nearestLeaf_26 : decode cX9_nearestLeaf 26 = .ok (.getfield 350, 3) := by decide +kernel
theorem dX9_nearestLeaf_29 : decode cX9_nearestLeaf 29 = .ok (.ifCond .ne 41, 3) := by decide +kernel
theorem dX9_nearestLeaf_32 : decode cX9_nearestLeaf 32 = .ok (.iload 5, 2) := by decide +kernel
theorem dX9_nearestLeaf_34 : decode cX9_nearestLeaf 34 = .ok (.iload_n 2, 1) := by decide +kernel
theorem dX9_nearestLeaf_35 : decode cX9_nearestLeaf 35 = .ok (.if_icmp .eq 35, 3) := by decide +kernel
theorem dX9_nearestLeaf_38 : decode cX9_nearestLeaf 38 = .ok (.aload_n 0, 1) := by decide +kernel
theorem dX9_nearestLeaf_39 : decode cX9_nearestLeaf 39 = .ok (.getfield 32, 3) := by decide +kernel
theorem dX9_nearestLeaf_42 : decode cX9_nearestLeaf 42 = .ok (.iload 5, 2) := by decide +kernel
theorem dX9_nearestLeaf_44 : decode cX9_nearestLeaf 44 = .ok (.aaload, 1) := by decide +kernel
theorem dX9_nearestLeaf_45 : decode cX9_nearestLeaf 45 = .ok (.iload_n 1, 1) := by decide +kernel
theorem dX9_nearestLeaf_46 : decode cX9_nearestLeaf 46 = .ok (.invokevirtual 341, 3) := by decide +kernel
theorem dX9_nearestLeaf_49 : decode cX9_nearestLeaf 49 = .ok (.iload 4, 2) := by decide +kernel
theorem dX9_nearestLeaf_51 : decode cX9_nearestLeaf 51 = .ok (.if_icmp .ge 19, 3) := by decide +kernel
theorem dX9_nearestLeaf_54 : decode cX9_nearestLeaf 54 = .ok (.aload_n 0, 1) := by decide +kernel
theorem dX9_nearestLeaf_55 : decode cX9_nearestLeaf 55 = .ok (.getfield 32, 3) := by decide +kernel
theorem dX9_nearestLeaf_58 : decode cX9_nearestLeaf 58 = .ok (.iload 5, 2) := by decide +kernel
theorem dX9_nearestLeaf_60 : decode cX9_nearestLeaf 60 = .ok (.aaload, 1) := by decide +kernel
theorem dX9_nearestLeaf_61 : decode cX9_nearestLeaf 61 = .ok (.iload_n 1, 1) := by decide +kernel
theorem dX9_nearestLeaf_62 : decode cX9_nearestLeaf 62 = .ok (.invokevirtual 341, 3) := by decide +kernel
theorem dX9_nearestLeaf_65 : decode cX9_nearestLeaf 65 = .ok (.istore 4, 2) := by decide +kernel
theorem dX9_nearestLeaf_67 : decode cX9_nearestLeaf 67 = .ok (.iload 5, 2) := by decide +kernel
theorem dX9_nearestLeaf_69 : decode cX9_nearestLeaf 69 = .ok (.istore_n 3, 1) := by decide +kernel
theorem dX9_nearestLeaf_70 : decode cX9_nearestLeaf 70 = .ok (.iinc 5 1, 3) := by decide +kernel
theorem dX9_nearestLeaf_73 : decode cX9_nearestLeaf 73 = .ok (.goto (-63), 3) := by decide +kernel
theorem dX9_nearestLeaf_76 : decode cX9_nearestLeaf 76 = .ok (.iload_n 3, 1) := by decide +kernel
theorem dX9_nearestLeaf_77 : decode cX9_nearestLeaf 77 = .ok (.ireturn, 1) := by decide +kernel
theorem dX9_shortenSign_0 : decode cX9_shortenSign 0 = .ok (.aload_n 0, 1) := by decide +kernel
theorem dX9_shortenSign_1 : decode cX9_shortenSign 1 = .ok (.getfield 46, 3) := by decide +kernel
theorem dX9_shortenSign_4 : decode cX9_shortenSign 4 = .ok (.getfield 189, 3) := by decide +kernel
theorem dX9_shortenSign_7 : decode cX9_shortenSign 7 = .ok (.iconst 2, 1) := by decide +kernel
theorem dX9_shortenSign_8 : decode cX9_shortenSign 8 = .ok (.if_icmp .ge 4, 3) := by decide +kernel
theorem dX9_shortenSign_11 : decode cX9_shortenSign 11 = .ok (.return_, 1) := by decide +kernel
theorem dX9_shortenSign_12 : decode cX9_shortenSign 12 = .ok (.aload_n 0, 1) := by decide +kernel
theorem dX9_shortenSign_13 : decode cX9_shortenSign 13 = .ok (.getfield 46, 3) := by decide +kernel
theorem dX9_shortenSign_16 : decode cX9_shortenSign 16 = .ok (.dup, 1) := by decide +kernel
theorem dX9_shortenSign_17 : decode cX9_shortenSign 17 = .ok (.getfield 189, 3) := by decide +kernel
theorem dX9_shortenSign_20 : decode cX9_shortenSign 20 = .ok (.iconst 1, 1) := by decide +kernel
theorem dX9_shortenSign_21 : decode cX9_shortenSign 21 = .ok (.isub, 1) := by decide +kernel
theorem dX9_shortenSign_22 : decode cX9_shortenSign 22 = .ok (.putfield 189, 3) := by decide +kernel
theorem dX9_shortenSign_25 : decode cX9_shortenSign 25 = .ok (.aload_n 0, 1) := by decide +kernel
theorem dX9_shortenSign_26 : decode cX9_shortenSign 26 = .ok (.getfield 53, 3) := by decide +kernel
theorem dX9_shortenSign_29 : decode cX9_shortenSign 29 = .ok (.aload_n 0, 1) := by decide +kernel
theorem dX9_shortenSign_30 : decode cX9_shortenSign 30 = .ok (.getfield 26, 3) := by decide +kernel
theorem dX9_shortenSign_33 : decode cX9_shortenSign 33 = .ok (.iload_n 2, 1) := by decide +kernel
theorem dX9_shortenSign_34 : decode cX9_shortenSign 34 = .ok (.aaload, 1) := by decide +kernel
theorem dX9_shortenSign_35 : decode cX9_shortenSign 35 = .ok (.aload_n 0, 1) := by decide +kernel
theorem dX9_shortenSign_36 : decode cX9_shortenSign 36 = .ok (.getfield 46, 3) := by decide +kernel
theorem dX9_shortenSign_39 : decode cX9_shortenSign 39 = .ok (.aload_n 0, 1) := by decide +kernel
theorem dX9_shortenSign_40 : decode cX9_shortenSign 40 = .ok (.getfield 26, 3) := by decide +kernel
theorem dX9_shortenSign_43 : decode cX9_shortenSign 43 = .ok (.iload_n 1, 1) := by decide +kernel
theorem dX9_shortenSign_44 : decode cX9_shortenSign 44 = .ok (.aaload, 1) := by decide +kernel
theorem dX9_shortenSign_45 : decode cX9_shortenSign 45 = .ok (.invokevirtual 225, 3) := by decide +kernel
theorem dX9_shortenSign_48 : decode cX9_shortenSign 48 = .ok (.aload_n 0, 1) := by decide +kernel
theorem dX9_shortenSign_49 : decode cX9_shortenSign 49 = .ok (.getfield 53, 3) := by decide +kernel
theorem dX9_shortenSign_52 : decode cX9_shortenSign 52 = .ok (.iload_n 3, 1) := by decide +kernel
theorem dX9_shortenSign_53 : decode cX9_shortenSign 53 = .ok (.invokevirtual 197, 3) := by decide +kernel
theorem dX9_shortenSign_56 : decode cX9_shortenSign 56 = .ok (.bipush 12, 2) := by decide +kernel
theorem dX9_shortenSign_58 : decode cX9_shortenSign 58 = .ok (.if_icmp .ge 16, 3) := by decide +kernel
theorem dX9_shortenSign_61 : decode cX9_shortenSign 61 = .ok (.aload_n 0, 1) := by decide +kernel
theorem dX9_shortenSign_62 : decode cX9_shortenSign 62 = .ok (.getfield 46, 3) := by decide +kernel
theorem dX9_shortenSign_65 : decode cX9_shortenSign 65 = .ok (.dup, 1) := by decide +kernel
theorem dX9_shortenSign_66 : decode cX9_shortenSign 66 = .ok (.getfield 189, 3) := by decide +kernel
theorem dX9_shortenSign_69 : decode cX9_shortenSign 69 = .ok (.iconst 1, 1) := by decide +kernel
theorem dX9_shortenSign_70 : decode cX9_shortenSign 70 = .ok (.iadd, 1) := by decide +kernel
theorem dX9_shortenSign_71 : decode cX9_shortenSign 71 = .ok (.putfield 189, 3) := by decide +kernel
theorem dX9_shortenSign_74 : decode cX9_shortenSign 74 = .ok (.return_, 1) := by decide +kernel
theorem dX9_sloppyPlayers_0 : decode cX9_sloppyPlayers 0 = .ok (.iconst 0, 1) := by decide +kernel
theorem dX9_sloppyPlayers_1 : decode cX9_sloppyPlayers 1 = .ok (.istore_n 1, 1) := by decide +kernel
theorem dX9_sloppyPlayers_2 : decode cX9_sloppyPlayers 2 = .ok (.iconst 0, 1) := by decide +kernel
theorem dX9_sloppyPlayers_3 : decode cX9_sloppyPlayers 3 = .ok (.istore_n 2, 1) := by decide +kernel
theorem dX9_sloppyPlayers_4 : decode cX9_sloppyPlayers 4 = .ok (.iload_n 2, 1) := by decide +kernel
theorem dX9_sloppyPlayers_5 : decode cX9_sloppyPlayers 5 = .ok (.aload_n 0, 1) := by decide +kernel
theorem dX9_sloppyPlayers_6 : decode cX9_sloppyPlayers 6 = .ok (.getfield 150, 3) := by decide +kernel
theorem dX9_sloppyPlayers_9 : decode cX9_sloppyPlayers 9 = .ok (.if_icmp .ge 25, 3) := by decide +kernel
theorem dX9_sloppyPlayers_12 : decode cX9_sloppyPlayers 12 = .ok (.aload_n 0, 1) := by decide +kernel
theorem dX9_sloppyPlayers_13 : decode cX9_sloppyPlayers 13 = .ok (.getfield 26, 3) := by decide +kernel
theorem dX9_sloppyPlayers_16 : decode cX9_sloppyPlayers 16 = .ok (.iload_n 2, 1) := by decide +kernel
theorem dX9_sloppyPlayers_17 : decode cX9_sloppyPlayers 17 = .ok (.aaload, 1) := by decide +kernel
theorem dX9_sloppyPlayers_18 : decode cX9_sloppyPlayers 18 = .ok (.iconst 1, 1) := by decide +kernel
theorem dX9_sloppyPlayers_19 : decode cX9_sloppyPlayers 19 = .ok (.invokevirtual 182, 3) := by decide +kernel
theorem dX9_sloppyPlayers_22 : decode cX9_sloppyPlayers 22 = .ok (.ifCond .eq 6, 3) := by decide +kernel
theorem dX9_sloppyPlayers_25 : decode cX9_sloppyPlayers 25 = .ok (.iinc 1 1, 3) := by decide +kernel
theorem dX9_sloppyPlayers_28 : decode cX9_sloppyPlayers 28 = .ok (.iinc 2 1, 3) := by decide +kernel
theorem dX9_sloppyPlayers_31 : decode cX9_sloppyPlayers 31 = .ok (.goto (-27), 3) := by decide +kernel
theorem dX9_sloppyPlayers_34 : decode cX9_sloppyPlayers 34 = .ok (.iload_n 1, 1) := by decide +kernel
theorem dX9_sloppyPlayers_35 : decode cX9_sloppyPlayers 35 = .ok (.ireturn, 1) := by decide +kernel
theorem dX9_sheetsThere_0 : decode cX9_sheetsThere 0 = .ok (.iconst 0, 1) := by decide +kernel
theorem dX9_sheetsThere_1 : decode cX9_sheetsThere 1 = .ok (.istore_n 1, 1) := by decide +kernel
theorem dX9_sheetsThere_2 : decode cX9_sheetsThere 2 = .ok (.iconst 0, 1) := by decide +kernel
theorem dX9_sheetsThere_3 : decode cX9_sheetsThere 3 = .ok (.istore_n 2, 1) := by decide +kernel
theorem dX9_sheetsThere_4 : decode cX9_sheetsThere 4 = .ok (.iload_n 2, 1) := by decide +kernel
theorem dX9_sheetsThere_5 : decode cX9_sheetsThere 5 = .ok (.aload_n 0, 1) := by decide +kernel
theorem dX9_sheetsThere_6 : decode cX9_sheetsThere 6 = .ok (.arraylength, 1) := by decide +kernel
theorem dX9_sheetsThere_7 : decode cX9_sheetsThere 7 = .ok (.if_icmp .ge 21, 3) := by decide +kernel
theorem dX9_sheetsThere_10 : decode cX9_sheetsThere 10 = .ok (.aload_n 0, 1) := by decide +kernel
theorem dX9_sheetsThere_11 : decode cX9_sheetsThere 11 = .ok (.iload_n 2, 1) := by decide +kernel
theorem dX9_sheetsThere_12 : decode cX9_sheetsThere 12 = .ok (.aaload, 1) := by decide +kernel
theorem dX9_sheetsThere_13 : decode cX9_sheetsThere 13 = .ok (.invokevirtual 107, 3) := by decide +kernel
theorem dX9_sheetsThere_16 : decode cX9_sheetsThere 16 = .ok (.ifCond .ne 6, 3) := by decide +kernel
theorem dX9_sheetsThere_19 : decode cX9_sheetsThere 19 = .ok (.iinc 1 1, 3) := by decide +kernel
theorem dX9_sheetsThere_22 : decode cX9_sheetsThere 22 = .ok (.iinc 2 1, 3) := by decide +kernel
theorem dX9_sheetsThere_25 : decode cX9_sheetsThere 25 = .ok (.goto (-21), 3) := by decide +kernel
theorem dX9_sheetsThere_28 : decode cX9_sheetsThere 28 = .ok (.iload_n 1, 1) := by decide +kernel
theorem dX9_sheetsThere_29 : decode cX9_sheetsThere 29 = .ok (.ireturn, 1) := by decide +kernel
theorem dX9_nextOrder_0 : decode cX9_nextOrder 0 = .ok (.iload_n 1, 1) := by decide +kernel
theorem dX9_nextOrder_1 : decode cX9_nextOrder 1 = .ok (.ifCond .lt 9, 3) := by decide +kernel
theorem dX9_nextOrder_4 : decode cX9_nextOrder 4 = .ok (.iload_n 2, 1) := by decide +kernel
theorem dX9_nextOrder_5 : decode cX9_nextOrder 5 = .ok (.aload_n 0, 1) := by decide +kernel
theorem dX9_nextOrder_6 : decode cX9_nextOrder 6 = .ok (.arraylength, 1) := by decide +kernel
theorem dX9_nextOrder_7 : decode cX9_nextOrder 7 = .ok (.if_icmp .le 5, 3) := by decide +kernel
theorem dX9_nextOrder_10 : decode cX9_nextOrder 10 = .ok (.iconst 0, 1) := by decide +kernel
theorem dX9_nextOrder_11 : decode cX9_nextOrder 11 = .ok (.ireturn, 1) := by decide +kernel
theorem dX9_nextOrder_12 : decode cX9_nextOrder 12 = .ok (.iload_n 2, 1) := by decide +kernel
theorem dX9_nextOrder_13 : decode cX9_nextOrder 13 = .ok (.iconst 2, 1) := by decide +kernel
theorem dX9_nextOrder_14 : decode cX9_nextOrder 14 = .ok (.isub, 1) := by decide +kernel
theorem dX9_nextOrder_15 : decode cX9_nextOrder 15 = .ok (.istore_n 3, 1) := by decide +kernel
theorem dX9_nextOrder_16 : decode cX9_nextOrder 16 = .ok (.iload_n 3, 1) := by decide +kernel
theorem dX9_nextOrder_17 : decode cX9_nextOrder 17 = .ok (.iload_n 1, 1) := by decide +kernel
theorem dX9_nextOrder_18 : decode cX9_nextOrder 18 = .ok (.if_icmp .lt 20, 3) := by decide +kernel
theorem dX9_nextOrder_21 : decode cX9_nextOrder 21 = .ok (.aload_n 0, 1) := by decide +kernel
theorem dX9_nextOrder_22 : decode cX9_nextOrder 22 = .ok (.iload_n 3, 1) := by decide +kernel
theorem dX9_nextOrder_23 : decode cX9_nextOrder 23 = .ok (.iaload, 1) := by decide +kernel
theorem dX9_nextOrder_24 : decode cX9_nextOrder 24 = .ok (.aload_n 0, 1) := by decide +kernel
theorem dX9_nextOrder_25 : decode cX9_nextOrder 25 = .ok (.iload_n 3, 1) := by decide +kernel
theorem dX9_nextOrder_26 : decode cX9_nextOrder 26 = .ok (.iconst 1, 1) := by decide +kernel
theorem dX9_nextOrder_27 : decode cX9_nextOrder 27 = .ok (.iadd, 1) := by decide +kernel
theorem dX9_nextOrder_28 : decode cX9_nextOrder 28 = .ok (.iaload, 1) := by decide +kernel
theorem dX9_nextOrder_29 : decode cX9_nextOrder 29 = .ok (.if_icmp .lt 9, 3) := by decide +kernel
theorem dX9_nextOrder_32 : decode cX9_nextOrder 32 = .ok (.iinc 3 (-1), 3) := by decide +kernel
theorem dX9_nextOrder_35 : decode cX9_nextOrder 35 = .ok (.goto (-19), 3) := by decide +kernel
theorem dX9_nextOrder_38 : decode cX9_nextOrder 38 = .ok (.iload_n 3, 1) := by decide +kernel
theorem dX9_nextOrder_39 : decode cX9_nextOrder 39 = .ok (.iload_n 1, 1) := by decide +kernel
theorem dX9_nextOrder_40 : decode cX9_nextOrder 40 = .ok (.if_icmp .ge 5, 3) := by decide +kernel
theorem dX9_nextOrder_43 : decode cX9_nextOrder 43 = .ok (.iconst 0, 1) := by decide +kernel
theorem dX9_nextOrder_44 : decode cX9_nextOrder 44 = .ok (.ireturn, 1) := by decide +kernel
theorem dX9_nextOrder_45 : decode cX9_nextOrder 45 = .ok (.iload_n 2, 1) := by decide +kernel
theorem dX9_nextOrder_46 : decode cX9_nextOrder 46 = .ok (.iconst 1, 1) := by decide +kernel
theorem dX9_nextOrder_47 : decode cX9_nextOrder 47 = .ok (.isub, 1) := by decide +kernel
theorem dX9_nextOrder_48 : decode cX9_nextOrder 48 = .ok (.istore 4, 2) := by decide +kernel
theorem dX9_nextOrder_50 : decode cX9_nextOrder 50 = .ok (.iload 4, 2) := by decide +kernel
theorem dX9_nextOrder_52 : decode cX9_nextOrder 52 = .ok (.iload_n 3, 1) := by decide +kernel
theorem dX9_nextOrder_53 : decode cX9_nextOrder 53 = .ok (.if_icmp .le 19, 3) := by decide +kernel
theorem dX9_nextOrder_56 : decode cX9_nextOrder 56 = .ok (.aload_n 0, 1) := by decide +kernel
theorem dX9_nextOrder_57 : decode cX9_nextOrder 57 = .ok (.iload 4, 2) := by decide +kernel
theorem dX9_nextOrder_59 : decode cX9_nextOrder 59 = .ok (.iaload, 1) := by decide +kernel
theorem dX9_nextOrder_60 : decode cX9_nextOrder 60 = .ok (.aload_n 0, 1) := by decide +kernel
theorem dX9_nextOrder_61 : decode cX9_nextOrder 61 = .ok (.iload_n 3, 1) := by decide +kernel
theorem dX9_nextOrder_62 : decode cX9_nextOrder 62 = .ok (.iaload, 1) := by decide +kernel
theorem dX9_nextOrder_63 : decode cX9_nextOrder 63 = .ok (.if_icmp .gt 9, 3) := by decide +kernel
theorem dX9_nextOrder_66 : decode cX9_nextOrder 66 = .ok (.iinc 4 (-1), 3) := by decide +kernel
theorem dX9_nextOrder_69 : decode cX9_nextOrder 69 = .ok (.goto (-19), 3) := by decide +kernel
theorem dX9_nextOrder_72 : decode cX9_nextOrder 72 = .ok (.aload_n 0, 1) := by decide +kernel
theorem dX9_nextOrder_73 : decode cX9_nextOrder 73 = .ok (.iload_n 3, 1) := by decide +kernel
theorem dX9_nextOrder_74 : decode cX9_nextOrder 74 = .ok (.iload 4, 2) := by decide +kernel
theorem dX9_nextOrder_76 : decode cX9_nextOrder 76 = .ok (.invokestatic 450, 3) := by decide +kernel
theorem dX9_nextOrder_79 : decode cX9_nextOrder 79 = .ok (.iload_n 3, 1) := by decide +kernel
theorem dX9_nextOrder_80 : decode cX9_nextOrder 80 = .ok (.iconst 1, 1) := by decide +kernel
theorem dX9_nextOrder_81 : decode cX9_nextOrder 81 = .ok (.iadd, 1) := by decide +kernel
theorem dX9_nextOrder_82 : decode cX9_nextOrder 82 = .ok (.istore 5, 2) := by decide +kernel
theorem dX9_nextOrder_84 : decode cX9_nextOrder 84 = .ok (.iload_n 2, 1) := by decide +kernel
theorem dX9_nextOrder_85 : decode cX9_nextOrder 85 = .ok (.iconst 1, 1) := by decide +kernel
theorem dX9_nextOrder_86 : decode cX9_nextOrder 86 = .ok (.isub, 1) := by decide +kernel
theorem dX9_nextOrder_87 : decode cX9_nextOrder 87 = .ok (.istore 6, 2) := by decide +kernel
theorem dX9_nextOrder_89 : decode cX9_nextOrder 89 = .ok (.iload 5, 2) := by decide +kernel
theorem dX9_nextOrder_91 : decode cX9_nextOrder 91 = .ok (.iload 6, 2) := by decide +kernel
theorem dX9_nextOrder_93 : decode cX9_nextOrder 93 = .ok (.if_icmp .ge 20, 3) := by decide +kernel
theorem dX9_nextOrder_96 : decode cX9_nextOrder 96 = .ok (.aload_n 0, 1) := by decide +kernel
theorem dX9_nextOrder_97 : decode cX9_nextOrder 97 = .ok (.iload 5, 2) := by decide +kernel
theorem dX9_nextOrder_99 : decode cX9_nextOrder 99 = .ok (.iload 6, 2) := by decide +kernel
theorem dX9_nextOrder_101 : decode cX9_nextOrder 101 = .ok (.invokestatic 450, 3) := by decide +kernel
theorem dX9_nextOrder_104 : decode cX9_nextOrder 104 = .ok (.iinc 5 1, 3) := by decide +kernel
theorem dX9_nextOrder_107 : decode cX9_nextOrder 107 = .ok (.iinc 6 (-1), 3) := by decide +kernel
theorem dX9_nextOrder_110 : decode cX9_nextOrder 110 = .ok (.goto (-21), 3) := by decide +kernel
theorem dX9_nextOrder_113 : decode cX9_nextOrder 113 = .ok (.iconst 1, 1) := by decide +kernel
theorem dX9_nextOrder_114 : decode cX9_nextOrder 114 = .ok (.ireturn, 1) := by decide +kernel
theorem dX9_swap_0 : decode cX9_swap 0 = .ok (.aload_n 0, 1) := by decide +kernel
theorem dX9_swap_1 : decode cX9_swap 1 = .ok (.iload_n 1, 1) := by decide +kernel
theorem dX9_swap_2 : decode cX9_swap 2 = .ok (.iaload, 1) := by decide +kernel
theorem dX9_swap_3 : decode cX9_swap 3 = .ok (.istore_n 3, 1) := by decide +kernel
theorem dX9_swap_4 : decode cX9_swap 4 = .ok (.aload_n 0, 1) := by decide +kernel
theorem dX9_swap_5 : decode cX9_swap 5 = .ok (.iload_n 1, 1) := by decide +kernel
theorem dX9_swap_6 : decode cX9_swap 6 = .ok (.aload_n 0, 1) := by decide +kernel
theorem dX9_swap_7 : decode cX9_swap 7 = .ok (.iload_n 2, 1) := by decide +kernel
theorem dX9_swap_8 : decode cX9_swap 8 = .ok (.iaload, 1) := by decide +kernel
theorem dX9_swap_9 : decode cX9_swap 9 = .ok (.iastore, 1) := by decide +kernel
theorem dX9_swap_10 : decode cX9_swap 10 = .ok (.aload_n 0, 1) := by decide +kernel
theorem dX9_swap_11 : decode cX9_swap 11 = .ok (.iload_n 2, 1) := by decide +kernel
theorem dX9_swap_12 : decode cX9_swap 12 = .ok (.iload_n 3, 1) := by decide +kernel
theorem dX9_swap_13 : decode cX9_swap 13 = .ok (.iastore, 1) := by decide +kernel
theorem dX9_swap_14 : decode cX9_swap 14 = .ok (.return_, 1) := by decide +kernel
