theorem dX10_four_0 : decode cX10_four 0 = .ok (.bipush 24, 2) := by decide +kernel
theorem dX10_four_2 : decode cX10_four 2 = .ok (.istore_n 2, 1) := by decide +kernel
theorem dX10_four_3 : decode cX10_four 3 = .ok (.iload_n 2, 1) := by decide +kernel
theorem dX10_four_4 : decode cX10_four 4 = .ok (.ifCond .lt 32, 3) := by decide +kernel
theorem dX10_four_36 : decode cX10_four 36 = .ok (.return_, 1) := by decide +kernel
theorem dX10_four_7 : decode cX10_four 7 = .ok (.aload_n 0, 1) := by decide +kernel
theorem dX10_four_8 : decode cX10_four 8 = .ok (.getfield 23, 3) := by decide +kernel
theorem dX10_four_11 : decode cX10_four 11 = .ok (.aload_n 0, 1) := by decide +kernel
theorem dX10_four_12 : decode cX10_four 12 = .ok (.getfield 128, 3) := by decide +kernel
theorem dX10_four_15 : decode cX10_four 15 = .ok (.iload_n 1, 1) := by decide +kernel
theorem dX10_four_16 : decode cX10_four 16 = .ok (.iload_n 2, 1) := by decide +kernel
theorem dX10_four_17 : decode cX10_four 17 = .ok (.ishr, 1) := by decide +kernel
theorem dX10_four_18 : decode cX10_four 18 = .ok (.i2b, 1) := by decide +kernel
theorem dX10_four_19 : decode cX10_four 19 = .ok (.bastore, 1) := by decide +kernel
theorem dX10_four_20 : decode cX10_four 20 = .ok (.aload_n 0, 1) := by decide +kernel
theorem dX10_four_21 : decode cX10_four 21 = .ok (.dup, 1) := by decide +kernel
theorem dX10_four_22 : decode cX10_four 22 = .ok (.getfield 128, 3) := by decide +kernel
theorem dX10_four_25 : decode cX10_four 25 = .ok (.iconst 1, 1) := by decide +kernel
theorem dX10_four_26 : decode cX10_four 26 = .ok (.iadd, 1) := by decide +kernel
theorem dX10_four_27 : decode cX10_four 27 = .ok (.putfield 128, 3) := by decide +kernel
theorem dX10_four_30 : decode cX10_four 30 = .ok (.iinc 2 (-8), 3) := by decide +kernel
theorem dX10_four_33 : decode cX10_four 33 = .ok (.goto (-30), 3) := by decide +kernel
theorem dX10_feed_0 : decode cX10_feed 0 = .ok (.aload_n 0, 1) := by decide +kernel
theorem dX10_feed_1 : decode cX10_feed 1 = .ok (.iconst 0, 1) := by decide +kernel
theorem dX10_feed_2 : decode cX10_feed 2 = .ok (.putfield 111, 3) := by decide +kernel
theorem dX10_feed_5 : decode cX10_feed 5 = .ok (.aload_n 0, 1) := by decide +kernel
theorem dX10_feed_6 : decode cX10_feed 6 = .ok (.getfield 128, 3) := by decide +kernel
theorem dX10_feed_9 : decode cX10_feed 9 = .ok (.bipush 20, 2) := by decide +kernel
theorem dX10_feed_11 : decode cX10_feed 11 = .ok (.iadd, 1) := by decide +kernel
theorem dX10_feed_12 : decode cX10_feed 12 = .ok (.sipush 1600, 3) := by decide +kernel
theorem dX10_feed_15 : decode cX10_feed 15 = .ok (.if_icmp .le 5, 3) := by decide +kernel
theorem dX10_feed_20 : decode cX10_feed 20 = .ok (.aload_n 0, 1) := by decide +kernel
theorem dX10_feed_21 : decode cX10_feed 21 = .ok (.iload_n 1, 1) := by decide +kernel
theorem dX10_feed_22 : decode cX10_feed 22 = .ok (.invokevirtual 131, 3) := by decide +kernel
theorem dX10_feed_25 : decode cX10_feed 25 = .ok (.aload_n 0, 1) := by decide +kernel
theorem dX10_feed_26 : decode cX10_feed 26 = .ok (.iload_n 2, 1) := by decide +kernel
theorem dX10_feed_27 : decode cX10_feed 27 = .ok (.invokevirtual 131, 3) := by decide +kernel
theorem dX10_feed_30 : decode cX10_feed 30 = .ok (.aload_n 0, 1) := by decide +kernel
theorem dX10_feed_31 : decode cX10_feed 31 = .ok (.iload_n 3, 1) := by decide +kernel
theorem dX10_feed_32 : decode cX10_feed 32 = .ok (.invokevirtual 131, 3) := by decide +kernel
theorem dX10_feed_35 : decode cX10_feed 35 = .ok (.aload_n 0, 1) := by decide +kernel
theorem dX10_feed_36 : decode cX10_feed 36 = .ok (.iload 4, 2) := by decide +kernel
theorem dX10_feed_38 : decode cX10_feed 38 = .ok (.invokevirtual 131, 3) := by decide +kernel
theorem dX10_feed_41 : decode cX10_feed 41 = .ok (.aload_n 0, 1) := by decide +kernel
theorem dX10_feed_42 : decode cX10_feed 42 = .ok (.iload 5, 2) := by decide +kernel
theorem dX10_feed_44 : decode cX10_feed 44 = .ok (.invokevirtual 131, 3) := by decide +kernel
theorem dX10_feed_47 : decode cX10_feed 47 = .ok (.aload_n 0, 1) := by decide +kernel
theorem dX10_feed_48 : decode cX10_feed 48 = .ok (.getfield 128, 3) := by decide +kernel
theorem dX10_feed_51 : decode cX10_feed 51 = .ok (.ireturn, 1) := by decide +kernel
theorem dX10_feed_18 : decode cX10_feed 18 = .ok (.iconst (-1), 1) := by decide +kernel
theorem dX10_feed_19 : decode cX10_feed 19 = .ok (.ireturn, 1) := by decide +kernel
theorem dX10_isByte_0 : decode cX10_isByte 0 = .ok (.iload_n 1, 1) := by decide +kernel
theorem dX10_isByte_1 : decode cX10_isByte 1 = .ok (.aload_n 0, 1) := by decide +kernel
theorem dX10_isByte_2 : decode cX10_isByte 2 = .ok (.getfield 128, 3) := by decide +kernel
theorem dX10_isByte_5 : decode cX10_isByte 5 = .ok (.if_icmp .ge 27, 3) := by decide +kernel
theorem dX10_isByte_32 : decode cX10_isByte 32 = .ok (.iconst 0, 1) := by decide +kernel
theorem dX10_isByte_33 : decode cX10_isByte 33 = .ok (.ireturn, 1) := by decide +kernel
theorem dX10_isByte_8 : decode cX10_isByte 8 = .ok (.aload_n 0, 1) := by decide +kernel
theorem dX10_isByte_9 : decode cX10_isByte 9 = .ok (.getfield 23, 3) := by decide +kernel
theorem dX10_isByte_12 : decode cX10_isByte 12 = .ok (.iload_n 1, 1) := by decide +kernel
theorem dX10_isByte_13 : decode cX10_isByte 13 = .ok (.baload, 1) := by decide +kernel
theorem dX10_isByte_14 : decode cX10_isByte 14 = .ok (.iload_n 2, 1) := by decide +kernel
theorem dX10_isByte_15 : decode cX10_isByte 15 = .ok (.if_icmp .lt 17, 3) := by decide +kernel
theorem dX10_isByte_18 : decode cX10_isByte 18 = .ok (.aload_n 0, 1) := by decide +kernel
theorem dX10_isByte_19 : decode cX10_isByte 19 = .ok (.getfield 23, 3) := by decide +kernel
theorem dX10_isByte_22 : decode cX10_isByte 22 = .ok (.iload_n 1, 1) := by decide +kernel
theorem dX10_isByte_23 : decode cX10_isByte 23 = .ok (.baload, 1) := by decide +kernel
theorem dX10_isByte_24 : decode cX10_isByte 24 = .ok (.iload_n 3, 1) := by decide +kernel
theorem dX10_isByte_25 : decode cX10_isByte 25 = .ok (.if_icmp .gt 7, 3) := by decide +kernel
theorem dX10_isByte_28 : decode cX10_isByte 28 = .ok (.iconst 1, 1) := by decide +kernel
theorem dX10_isByte_29 : decode cX10_isByte 29 = .ok (.goto 4, 3) := by decide +kernel
theorem dX10_isGood_0 : decode cX10_isGood 0 = .ok (.aload_n 0, 1) := by decide +kernel
theorem dX10_isGood_1 : decode cX10_isGood 1 = .ok (.getfield 163, 3) := by decide +kernel
theorem dX10_isGood_4 : decode cX10_isGood 4 = .ok (.ifCond .ne 7, 3) := by decide +kernel
theorem dX10_isGood_11 : decode cX10_isGood 11 = .ok (.iconst 0, 1) := by decide +kernel
theorem dX10_isGood_12 : decode cX10_isGood 12 = .ok (.ireturn, 1) := by decide +kernel
theorem dX10_isGood_7 : decode cX10_isGood 7 = .ok (.iconst 1, 1) := by decide +kernel
theorem dX10_isGood_8 : decode cX10_isGood 8 = .ok (.goto 4, 3) := by decide +kernel
theorem dX10_next_0 : decode cX10_next 0 = .ok (.aload_n 0, 1) := by decide +kernel
theorem dX10_next_1 : decode cX10_next 1 = .ok (.aload_n 0, 1) := by decide +kernel
theorem dX10_next_2 : decode cX10_next 2 = .ok (.getfield 135, 3) := by decide +kernel
theorem dX10_next_5 : decode cX10_next 5 = .ok (.bipush 32, 2) := by decide +kernel
theorem dX10_next_7 : decode cX10_next 7 = .ok (.bipush 32, 2) := by decide +kernel
theorem dX10_next_9 : decode cX10_next 9 = .ok (.invokevirtual 138, 3) := by decide +kernel
theorem dX10_next_12 : decode cX10_next 12 = .ok (.ifCond .ne 18, 3) := by decide +kernel
theorem dX10_next_30 : decode cX10_next 30 = .ok (.aload_n 0, 1) := by decide +kernel
theorem dX10_next_31 : decode cX10_next 31 = .ok (.dup, 1) := by decide +kernel
theorem dX10_next_32 : decode cX10_next 32 = .ok (.getfield 135, 3) := by decide +kernel
theorem dX10_next_35 : decode cX10_next 35 = .ok (.iconst 1, 1) := by decide +kernel
theorem dX10_next_36 : decode cX10_next 36 = .ok (.iadd, 1) := by decide +kernel
theorem dX10_next_37 : decode cX10_next 37 = .ok (.putfield 135, 3) := by decide +kernel
theorem dX10_next_40 : decode cX10_next 40 = .ok (.goto (-40), 3) := by decide +kernel
theorem dX10_next_15 : decode cX10_next 15 = .ok (.aload_n 0, 1) := by decide +kernel
theorem dX10_next_16 : decode cX10_next 16 = .ok (.aload_n 0, 1) := by decide +kernel
theorem dX10_next_17 : decode cX10_next 17 = .ok (.getfield 135, 3) := by decide +kernel
theorem dX10_next_20 : decode cX10_next 20 = .ok (.bipush 10, 2) := by decide +kernel
theorem dX10_next_22 : decode cX10_next 22 = .ok (.bipush 10, 2) := by decide +kernel
theorem dX10_next_24 : decode cX10_next 24 = .ok (.invokevirtual 138, 3) := by decide +kernel
theorem dX10_next_27 : decode cX10_next 27 = .ok (.ifCond .eq 16, 3) := by decide +kernel
theorem dX10_next_43 : decode cX10_next 43 = .ok (.aload_n 0, 1) := by decide +kernel
theorem dX10_next_44 : decode cX10_next 44 = .ok (.aload_n 0, 1) := by decide +kernel
theorem dX10_next_45 : decode cX10_next 45 = .ok (.getfield 135, 3) := by decide +kernel
theorem dX10_next_48 : decode cX10_next 48 = .ok (.putfield 142, 3) := by decide +kernel
theorem dX10_next_51 : decode cX10_next 51 = .ok (.aload_n 0, 1) := by decide +kernel
theorem dX10_next_52 : decode cX10_next 52 = .ok (.iconst 0, 1) := by decide +kernel
theorem dX10_next_53 : decode cX10_next 53 = .ok (.putfield 145, 3) := by decide +kernel
theorem dX10_next_56 : decode cX10_next 56 = .ok (.aload_n 0, 1) := by decide +kernel
theorem dX10_next_57 : decode cX10_next 57 = .ok (.lconst 0, 1) := by decide +kernel
theorem dX10_next_58 : decode cX10_next 58 = .ok (.putfield 148, 3) := by decide +kernel
theorem dX10_next_61 : decode cX10_next 61 = .ok (.aload_n 0, 1) := by decide +kernel
theorem dX10_next_62 : decode cX10_next 62 = .ok (.getfield 135, 3) := by decide +kernel
theorem dX10_next_65 : decode cX10_next 65 = .ok (.aload_n 0, 1) := by decide +kernel
theorem dX10_next_66 : decode cX10_next 66 = .ok (.getfield 128, 3) := by decide +kernel
theorem dX10_next_69 : decode cX10_next 69 = .ok (.if_icmp .ne 11, 3) := by decide +kernel
theorem dX10_next_80 : decode cX10_next 80 = .ok (.aload_n 0, 1) := by decide +kernel
theorem dX10_next_81 : decode cX10_next 81 = .ok (.aload_n 0, 1) := by decide +kernel
theorem dX10_next_82 : decode cX10_next 82 = .ok (.getfield 135, 3) := by decide +kernel
theorem dX10_next_85 : decode cX10_next 85 = .ok (.bipush 97, 2) := by decide +kernel
theorem dX10_next_87 : decode cX10_next 87 = .ok (.bipush 122, 2) := by decide +kernel
theorem dX10_next_89 : decode cX10_next 89 = .ok (.invokevirtual 138, 3) := by decide +kernel
theorem dX10_next_92 : decode cX10_next 92 = .ok (.ifCond .eq 96, 3) := by decide +kernel
theorem dX10_next_95 : decode cX10_next 95 = .ok (.aload_n 0, 1) := by decide +kernel
theorem dX10_next_96 : decode cX10_next 96 = .ok (.iconst 1, 1) := by decide +kernel
theorem dX10_next_97 : decode cX10_next 97 = .ok (.putfield 152, 3) := by decide +kernel
theorem dX10_next_100 : decode cX10_next 100 = .ok (.iconst 0, 1) := by decide +kernel
theorem dX10_next_101 : decode cX10_next 101 = .ok (.istore_n 1, 1) := by decide +kernel
theorem dX10_next_102 : decode cX10_next 102 = .ok (.aload_n 0, 1) := by decide +kernel
theorem dX10_next_103 : decode cX10_next 103 = .ok (.aload_n 0, 1) := by decide +kernel
theorem dX10_next_104 : decode cX10_next 104 = .ok (.getfield 135, 3) := by decide +kernel
theorem dX10_next_107 : decode cX10_next 107 = .ok (.bipush 97, 2) := by decide +kernel
theorem dX10_next_109 : decode cX10_next 109 = .ok (.bipush 122, 2) := by decide +kernel
theorem dX10_next_111 : decode cX10_next 111 = .ok (.invokevirtual 138, 3) := by decide +kernel
theorem dX10_next_114 : decode cX10_next 114 = .ok (.ifCond .eq 71, 3) := by decide +kernel
theorem dX10_next_117 : decode cX10_next 117 = .ok (.aload_n 0, 1) := by decide +kernel
theorem dX10_next_118 : decode cX10_next 118 = .ok (.iload_n 1, 1) := by decide +kernel
theorem dX10_next_119 : decode cX10_next 119 = .ok (.bipush 11, 2) := by decide +kernel
theorem dX10_next_121 : decode cX10_next 121 = .ok (.if_icmp .le 9, 3) := by decide +kernel
theorem dX10_next_130 : decode cX10_next 130 = .ok (.ldc2_w 157, 3) := by decide +kernel
theorem dX10_next_133 : decode cX10_next 133 = .ok (.aload_n 0, 1) := by decide +kernel
theorem dX10_next_134 : decode cX10_next 134 = .ok (.getfield 148, 3) := by decide +kernel
theorem dX10_next_137 : decode cX10_next 137 = .ok (.lmul, 1) := by decide +kernel
theorem dX10_next_138 : decode cX10_next 138 = .ok (.aload_n 0, 1) := by decide +kernel
theorem dX10_next_139 : decode cX10_next 139 = .ok (.getfield 23, 3) := by decide +kernel
theorem dX10_next_142 : decode cX10_next 142 = .ok (.aload_n 0, 1) := by decide +kernel
theorem dX10_next_143 : decode cX10_next 143 = .ok (.getfield 135, 3) := by decide +kernel
theorem dX10_next_146 : decode cX10_next 146 = .ok (.baload, 1) := by decide +kernel
theorem dX10_next_147 : decode cX10_next 147 = .ok (.i2l, 1) := by decide +kernel
theorem dX10_next_148 : decode cX10_next 148 = .ok (.ladd, 1) := by decide +kernel
theorem dX10_next_149 : decode cX10_next 149 = .ok (.ldc2_w 159, 3) := by decide +kernel
theorem dX10_next_152 : decode cX10_next 152 = .ok (.lsub, 1) := by decide +kernel
theorem dX10_next_153 : decode cX10_next 153 = .ok (.putfield 148, 3) := by decide +kernel
theorem dX10_next_156 : decode cX10_next 156 = .ok (.iload_n 1, 1) := by decide +kernel
theorem dX10_next_157 : decode cX10_next 157 = .ok (.bipush 11, 2) := by decide +kernel
theorem dX10_next_159 : decode cX10_next 159 = .ok (.if_icmp .le 10, 3) := by decide +kernel
theorem dX10_next_169 : decode cX10_next 169 = .ok (.aload_n 0, 1) := by decide +kernel
theorem dX10_next_170 : decode cX10_next 170 = .ok (.dup, 1) := by decide +kernel
theorem dX10_next_171 : decode cX10_next 171 = .ok (.getfield 135, 3) := by decide +kernel
theorem dX10_next_174 : decode cX10_next 174 = .ok (.iconst 1, 1) := by decide +kernel
theorem dX10_next_175 : decode cX10_next 175 = .ok (.iadd, 1) := by decide +kernel
theorem dX10_next_176 : decode cX10_next 176 = .ok (.putfield 135, 3) := by decide +kernel
theorem dX10_next_179 : decode cX10_next 179 = .ok (.iinc 1 1, 3) := by decide +kernel
theorem dX10_next_182 : decode cX10_next 182 = .ok (.goto (-80), 3) := by decide +kernel
theorem dX10_next_124 : decode cX10_next 124 = .ok (.ldc2_w 155, 3) := by decide +kernel
theorem dX10_next_127 : decode cX10_next 127 = .ok (.goto 26, 3) := by decide +kernel
theorem dX10_next_162 : decode cX10_next 162 = .ok (.aload_n 0, 1) := by decide +kernel
theorem dX10_next_163 : decode cX10_next 163 = .ok (.ldc2_w 155, 3) := by decide +kernel
theorem dX10_next_166 : decode cX10_next 166 = .ok (.putfield 148, 3) := by decide +kernel
theorem dX10_next_185 : decode cX10_next 185 = .ok (.goto 122, 3) := by decide +kernel
theorem dX10_next_307 : decode cX10_next 307 = .ok (.return_, 1) := by decide +kernel
theorem dX10_next_188 : decode cX10_next 188 = .ok (.aload_n 0, 1) := by decide +kernel
theorem dX10_next_189 : decode cX10_next 189 = .ok (.aload_n 0, 1) := by decide +kernel
theorem dX10_next_190 : decode cX10_next 190 = .ok (.getfield 135, 3) := by decide +kernel
theorem dX10_next_193 : decode cX10_next 193 = .ok (.bipush 48, 2) := by decide +kernel
theorem dX10_next_195 : decode cX10_next 195 = .ok (.bipush 57, 2) := by decide +kernel
theorem dX10_next_197 : decode cX10_next 197 = .ok (.invokevirtual 138, 3) := by decide +kernel
theorem dX10_next_200 : decode cX10_next 200 = .ok (.ifCond .eq 74, 3) := by decide +kernel
theorem dX10_next_203 : decode cX10_next 203 = .ok (.aload_n 0, 1) := by decide +kernel
theorem dX10_next_204 : decode cX10_next 204 = .ok (.iconst 2, 1) := by decide +kernel
theorem dX10_next_205 : decode cX10_next 205 = .ok (.putfield 152, 3) := by decide +kernel
theorem dX10_next_208 : decode cX10_next 208 = .ok (.aload_n 0, 1) := by decide +kernel
theorem dX10_next_209 : decode cX10_next 209 = .ok (.aload_n 0, 1) := by decide +kernel
theorem dX10_next_210 : decode cX10_next 210 = .ok (.getfield 135, 3) := by decide +kernel
theorem dX10_next_213 : decode cX10_next 213 = .ok (.bipush 48, 2) := by decide +kernel
theorem dX10_next_215 : decode cX10_next 215 = .ok (.bipush 57, 2) := by decide +kernel
theorem dX10_next_217 : decode cX10_next 217 = .ok (.invokevirtual 138, 3) := by decide +kernel
theorem dX10_next_220 : decode cX10_next 220 = .ok (.ifCond .eq 87, 3) := by decide +kernel
theorem dX10_next_223 : decode cX10_next 223 = .ok (.aload_n 0, 1) := by decide +kernel
theorem dX10_next_224 : decode cX10_next 224 = .ok (.aload_n 0, 1) := by decide +kernel
theorem dX10_next_225 : decode cX10_next 225 = .ok (.getfield 145, 3) := by decide +kernel
theorem dX10_next_228 : decode cX10_next 228 = .ok (.ldc 161, 2) := by decide +kernel
theorem dX10_next_230 : decode cX10_next 230 = .ok (.if_icmp .le 8, 3) := by decide +kernel
theorem dX10_next_238 : decode cX10_next 238 = .ok (.bipush 10, 2) := by decide +kernel
theorem dX10_next_240 : decode cX10_next 240 = .ok (.aload_n 0, 1) := by decide +kernel
theorem dX10_next_241 : decode cX10_next 241 = .ok (.getfield 145, 3) := by decide +kernel
theorem dX10_next_244 : decode cX10_next 244 = .ok (.imul, 1) := by decide +kernel
theorem dX10_next_245 : decode cX10_next 245 = .ok (.aload_n 0, 1) := by decide +kernel
theorem dX10_next_246 : decode cX10_next 246 = .ok (.getfield 23, 3) := by decide +kernel
theorem dX10_next_249 : decode cX10_next 249 = .ok (.aload_n 0, 1) := by decide +kernel
theorem dX10_next_250 : decode cX10_next 250 = .ok (.getfield 135, 3) := by decide +kernel
theorem dX10_next_253 : decode cX10_next 253 = .ok (.baload, 1) := by decide +kernel
theorem dX10_next_254 : decode cX10_next 254 = .ok (.iadd, 1) := by decide +kernel
theorem dX10_next_255 : decode cX10_next 255 = .ok (.bipush 48, 2) := by decide +kernel
theorem dX10_next_257 : decode cX10_next 257 = .ok (.isub, 1) := by decide +kernel
theorem dX10_next_258 : decode cX10_next 258 = .ok (.putfield 145, 3) := by decide +kernel
theorem dX10_next_261 : decode cX10_next 261 = .ok (.aload_n 0, 1) := by decide +kernel
theorem dX10_next_262 : decode cX10_next 262 = .ok (.dup, 1) := by decide +kernel
theorem dX10_next_263 : decode cX10_next 263 = .ok (.getfield 135, 3) := by decide +kernel
theorem dX10_next_266 : decode cX10_next 266 = .ok (.iconst 1, 1) := by decide +kernel
theorem dX10_next_267 : decode cX10_next 267 = .ok (.iadd, 1) := by decide +kernel
theorem dX10_next_268 : decode cX10_next 268 = .ok (.putfield 135, 3) := by decide +kernel
theorem dX10_next_271 : decode cX10_next 271 = .ok (.goto (-63), 3) := by decide +kernel
theorem dX10_next_233 : decode cX10_next 233 = .ok (.ldc 162, 2) := by decide +kernel
theorem dX10_next_235 : decode cX10_next 235 = .ok (.goto 23, 3) := by decide +kernel
theorem dX10_next_274 : decode cX10_next 274 = .ok (.aload_n 0, 1) := by decide +kernel
theorem dX10_next_275 : decode cX10_next 275 = .ok (.aload_n 0, 1) := by decide +kernel
theorem dX10_next_276 : decode cX10_next 276 = .ok (.getfield 23, 3) := by decide +kernel
theorem dX10_next_279 : decode cX10_next 279 = .ok (.aload_n 0, 1) := by decide +kernel
theorem dX10_next_280 : decode cX10_next 280 = .ok (.getfield 135, 3) := by decide +kernel
theorem dX10_next_283 : decode cX10_next 283 = .ok (.baload, 1) := by decide +kernel
theorem dX10_next_284 : decode cX10_next 284 = .ok (.bipush 59, 2) := by decide +kernel
theorem dX10_next_286 : decode cX10_next 286 = .ok (.if_icmp .ne 7, 3) := by decide +kernel
theorem dX10_next_293 : decode cX10_next 293 = .ok (.iconst 4, 1) := by decide +kernel
theorem dX10_next_294 : decode cX10_next 294 = .ok (.putfield 152, 3) := by decide +kernel
theorem dX10_next_297 : decode cX10_next 297 = .ok (.aload_n 0, 1) := by decide +kernel
theorem dX10_next_298 : decode cX10_next 298 = .ok (.dup, 1) := by decide +kernel
theorem dX10_next_299 : decode cX10_next 299 = .ok (.getfield 135, 3) := by decide +kernel
theorem dX10_next_302 : decode cX10_next 302 = .ok (.iconst 1, 1) := by decide +kernel
theorem dX10_next_303 : decode cX10_next 303 = .ok (.iadd, 1) := by decide +kernel
theorem dX10_next_304 : decode cX10_next 304 = .ok (.putfield 135, 3) := by decide +kernel
theorem dX10_next_289 : decode cX10_next 289 = .ok (.iconst 3, 1) := by decide +kernel
theorem dX10_next_290 : decode cX10_next 290 = .ok (.goto 4, 3) := by decide +kernel
theorem dX10_next_72 : decode cX10_next 72 = .ok (.aload_n 0, 1) := by decide +kernel
theorem dX10_next_73 : decode cX10_next 73 = .ok (.iconst 0, 1) := by decide +kernel
theorem dX10_next_74 : decode cX10_next 74 = .ok (.putfield 152, 3) := by decide +kernel
theorem dX10_next_77 : decode cX10_next 77 = .ok (.goto 230, 3) := by decide +kernel
theorem dX10_fails_0 : decode cX10_fails 0 = .ok (.aload_n 0, 1) := by decide +kernel
theorem dX10_fails_1 : decode cX10_fails 1 = .ok (.getfield 163, 3) := by decide +kernel
theorem dX10_fails_4 : decode cX10_fails 4 = .ok (.ifCond .eq 4, 3) := by decide +kernel
theorem dX10_fails_8 : decode cX10_fails 8 = .ok (.aload_n 0, 1) := by decide +kernel
theorem dX10_fails_9 : decode cX10_fails 9 = .ok (.iload_n 1, 1) := by decide +kernel
theorem dX10_fails_10 : decode cX10_fails 10 = .ok (.putfield 163, 3) := by decide +kernel
theorem dX10_fails_13 : decode cX10_fails 13 = .ok (.aload_n 0, 1) := by decide +kernel
theorem dX10_fails_14 : decode cX10_fails 14 = .ok (.aload_n 0, 1) := by decide +kernel
theorem dX10_fails_15 : decode cX10_fails 15 = .ok (.getfield 142, 3) := by decide +kernel
theorem dX10_fails_18 : decode cX10_fails 18 = .ok (.putfield 166, 3) := by decide +kernel
theorem dX10_fails_21 : decode cX10_fails 21 = .ok (.return_, 1) := by decide +kernel
theorem dX10_fails_7 : decode cX10_fails 7 = .ok (.return_, 1) := by decide +kernel
theorem dX10_is_0 : decode cX10_is 0 = .ok (.aload_n 0, 1) := by decide +kernel
theorem dX10_is_1 : decode cX10_is 1 = .ok (.getfield 163, 3) := by decide +kernel
theorem dX10_is_4 : decode cX10_is 4 = .ok (.ifCond .ne 24, 3) := by decide +kernel
theorem dX10_is_28 : decode cX10_is 28 = .ok (.iconst 0, 1) := by decide +kernel
theorem dX10_is_29 : decode cX10_is 29 = .ok (.ireturn, 1) := by decide +kernel
theorem dX10_is_7 : decode cX10_is 7 = .ok (.aload_n 0, 1) := by decide +kernel
theorem dX10_is_8 : decode cX10_is 8 = .ok (.getfield 152, 3) := by decide +kernel
theorem dX10_is_11 : decode cX10_is 11 = .ok (.iconst 1, 1) := by decide +kernel
theorem dX10_is_12 : decode cX10_is 12 = .ok (.if_icmp .ne 16, 3) := by decide +kernel
theorem dX10_is_15 : decode cX10_is 15 = .ok (.aload_n 0, 1) := by decide +kernel
theorem dX10_is_16 : decode cX10_is 16 = .ok (.getfield 148, 3) := by decide +kernel
theorem dX10_is_19 : decode cX10_is 19 = .ok (.lload_n 1, 1) := by decide +kernel
theorem dX10_is_20 : decode cX10_is 20 = .ok (.lcmp, 1) := by decide +kernel
theorem dX10_is_21 : decode cX10_is 21 = .ok (.ifCond .ne 7, 3) := by decide +kernel
theorem dX10_is_24 : decode cX10_is 24 = .ok (.iconst 1, 1) := by decide +kernel
theorem dX10_is_25 : decode cX10_is 25 = .ok (.goto 4, 3) := by decide +kernel
theorem dX10_takes_0 : decode cX10_takes 0 = .ok (.aload_n 0, 1) := by decide +kernel
theorem dX10_takes_1 : decode cX10_takes 1 = .ok (.lload_n 1, 1) := by decide +kernel
theorem dX10_takes_2 : decode cX10_takes 2 = .ok (.invokevirtual 169, 3) := by decide +kernel
theorem dX10_takes_5 : decode cX10_takes 5 = .ok (.ifCond .ne 5, 3) := by decide +kernel
theorem dX10_takes_10 : decode cX10_takes 10 = .ok (.aload_n 0, 1) := by decide +kernel
theorem dX10_takes_11 : decode cX10_takes 11 = .ok (.invokevirtual 173, 3) := by decide +kernel
theorem dX10_takes_14 : decode cX10_takes 14 = .ok (.iconst 1, 1) := by decide +kernel
theorem dX10_takes_15 : decode cX10_takes 15 = .ok (.ireturn, 1) := by decide +kernel
theorem dX10_takes_8 : decode cX10_takes 8 = .ok (.iconst 0, 1) := by decide +kernel
theorem dX10_takes_9 : decode cX10_takes 9 = .ok (.ireturn, 1) := by decide +kernel
theorem dX10_asks_0 : decode cX10_asks 0 = .ok (.aload_n 0, 1) := by decide +kernel
theorem dX10_asks_1 : decode cX10_asks 1 = .ok (.lload_n 1, 1) := by decide +kernel
theorem dX10_asks_2 : decode cX10_asks 2 = .ok (.invokevirtual 176, 3) := by decide +kernel
theorem dX10_asks_5 : decode cX10_asks 5 = .ok (.ifCond .ne 8, 3) := by decide +kernel
theorem dX10_asks_13 : decode cX10_asks 13 = .ok (.return_, 1) := by decide +kernel
theorem dX10_asks_8 : decode cX10_asks 8 = .ok (.aload_n 0, 1) := by decide +kernel
theorem dX10_asks_9 : decode cX10_asks 9 = .ok (.iconst 1, 1) := by decide +kernel
theorem dX10_asks_10 : decode cX10_asks 10 = .ok (.invokevirtual 179, 3) := by decide +kernel
theorem dX10_number_0 : decode cX10_number 0 = .ok (.aload_n 0, 1) := by decide +kernel
theorem dX10_number_1 : decode cX10_number 1 = .ok (.getfield 163, 3) := by decide +kernel
theorem dX10_number_4 : decode cX10_number 4 = .ok (.ifCond .eq 5, 3) := by decide +kernel
theorem dX10_number_9 : decode cX10_number 9 = .ok (.aload_n 0, 1) := by decide +kernel
theorem dX10_number_10 : decode cX10_number 10 = .ok (.getfield 152, 3) := by decide +kernel
theorem dX10_number_13 : decode cX10_number 13 = .ok (.iconst 2, 1) := by decide +kernel
theorem dX10_number_14 : decode cX10_number 14 = .ok (.if_icmp .eq 10, 3) := by decide +kernel
theorem dX10_number_24 : decode cX10_number 24 = .ok (.aload_n 0, 1) := by decide +kernel
theorem dX10_number_25 : decode cX10_number 25 = .ok (.getfield 145, 3) := by decide +kernel
theorem dX10_number_28 : decode cX10_number 28 = .ok (.i2l, 1) := by decide +kernel
theorem dX10_number_29 : decode cX10_number 29 = .ok (.iload_n 1, 1) := by decide +kernel
theorem dX10_number_30 : decode cX10_number 30 = .ok (.i2l, 1) := by decide +kernel
theorem dX10_number_31 : decode cX10_number 31 = .ok (.iload_n 2, 1) := by decide +kernel
theorem dX10_number_32 : decode cX10_number 32 = .ok (.i2l, 1) := by decide +kernel
theorem dX10_number_33 : decode cX10_number 33 = .ok (.invokestatic 116, 3) := by decide +kernel
theorem dX10_number_36 : decode cX10_number 36 = .ok (.ifCond .ne 10, 3) := by decide +kernel
theorem dX10_number_46 : decode cX10_number 46 = .ok (.aload_n 0, 1) := by decide +kernel
theorem dX10_number_47 : decode cX10_number 47 = .ok (.getfield 145, 3) := by decide +kernel
theorem dX10_number_50 : decode cX10_number 50 = .ok (.istore_n 3, 1) := by decide +kernel
theorem dX10_number_51 : decode cX10_number 51 = .ok (.aload_n 0, 1) := by decide +kernel
theorem dX10_number_52 : decode cX10_number 52 = .ok (.invokevirtual 173, 3) := by decide +kernel
theorem dX10_number_55 : decode cX10_number 55 = .ok (.iload_n 3, 1) := by decide +kernel
theorem dX10_number_56 : decode cX10_number 56 = .ok (.ireturn, 1) := by decide +kernel
theorem dX10_number_39 : decode cX10_number 39 = .ok (.aload_n 0, 1) := by decide +kernel
theorem dX10_number_40 : decode cX10_number 40 = .ok (.iconst 2, 1) := by decide +kernel
theorem dX10_number_41 : decode cX10_number 41 = .ok (.invokevirtual 179, 3) := by decide +kernel
theorem dX10_number_44 : decode cX10_number 44 = .ok (.iload_n 1, 1) := by decide +kernel
theorem dX10_number_45 : decode cX10_number 45 = .ok (.ireturn, 1) := by decide +kernel
theorem dX10_number_17 : decode cX10_number 17 = .ok (.aload_n 0, 1) := by decide +kernel
theorem dX10_number_18 : decode cX10_number 18 = .ok (.iconst 1, 1) := by decide +kernel
theorem dX10_number_19 : decode cX10_number 19 = .ok (.invokevirtual 179, 3) := by decide +kernel
theorem dX10_number_22 : decode cX10_number 22 = .ok (.iload_n 1, 1) := by decide +kernel
theorem dX10_number_23 : decode cX10_number 23 = .ok (.ireturn, 1) := by decide +kernel
theorem dX10_number_7 : decode cX10_number 7 = .ok (.iload_n 1, 1) := by decide +kernel
theorem dX10_number_8 : decode cX10_number 8 = .ok (.ireturn, 1) := by decide +kernel
theorem dX10_number__0 : decode cX10_number_ 0 = .ok (.aload_n 0, 1) := by decide +kernel
theorem dX10_number__1 : decode cX10_number_ 1 = .ok (.lload_n 1, 1) := by decide +kernel
theorem dX10_number__2 : decode cX10_number_ 2 = .ok (.invokevirtual 182, 3) := by decide +kernel
theorem dX10_number__5 : decode cX10_number_ 5 = .ok (.aload_n 0, 1) := by decide +kernel
theorem dX10_number__6 : decode cX10_number_ 6 = .ok (.iload_n 3, 1) := by decide +kernel
theorem dX10_number__7 : decode cX10_number_ 7 = .ok (.iload 4, 2) := by decide +kernel
theorem dX10_number__9 : decode cX10_number_ 9 = .ok (.invokevirtual 186, 3) := by decide +kernel
theorem dX10_number__12 : decode cX10_number_ 12 = .ok (.ireturn, 1) := by decide +kernel
theorem dX10_ends_0 : decode cX10_ends 0 = .ok (.aload_n 0, 1) := by decide +kernel
theorem dX10_ends_1 : decode cX10_ends 1 = .ok (.getfield 152, 3) := by decide +kernel
theorem dX10_ends_4 : decode cX10_ends 4 = .ok (.iconst 3, 1) := by decide +kernel
theorem dX10_ends_5 : decode cX10_ends 5 = .ok (.if_icmp .eq 8, 3) := by decide +kernel
theorem dX10_ends_13 : decode cX10_ends 13 = .ok (.aload_n 0, 1) := by decide +kernel
theorem dX10_ends_14 : decode cX10_ends 14 = .ok (.getfield 163, 3) := by decide +kernel
theorem dX10_ends_17 : decode cX10_ends 17 = .ok (.ifCond .ne 7, 3) := by decide +kernel
theorem dX10_ends_24 : decode cX10_ends 24 = .ok (.return_, 1) := by decide +kernel
theorem dX10_ends_20 : decode cX10_ends 20 = .ok (.aload_n 0, 1) := by decide +kernel
theorem dX10_ends_21 : decode cX10_ends 21 = .ok (.invokevirtual 173, 3) := by decide +kernel
theorem dX10_ends_8 : decode cX10_ends 8 = .ok (.aload_n 0, 1) := by decide +kernel
theorem dX10_ends_9 : decode cX10_ends 9 = .ok (.iconst 1, 1) := by decide +kernel
theorem dX10_ends_10 : decode cX10_ends 10 = .ok (.invokevirtual 179, 3) := by decide +kernel
theorem dX10_begins_0 : decode cX10_begins 0 = .ok (.aload_n 0, 1) := by decide +kernel
theorem dX10_begins_1 : decode cX10_begins 1 = .ok (.iconst 0, 1) := by decide +kernel
theorem dX10_begins_2 : decode cX10_begins 2 = .ok (.putfield 163, 3) := by decide +kernel
theorem dX10_begins_5 : decode cX10_begins 5 = .ok (.aload_n 0, 1) := by decide +kernel
theorem dX10_begins_6 : decode cX10_begins 6 = .ok (.iconst (-1), 1) := by decide +kernel
theorem dX10_begins_7 : decode cX10_begins 7 = .ok (.putfield 166, 3) := by decide +kernel
theorem dX10_begins_10 : decode cX10_begins 10 = .ok (.aload_n 0, 1) := by decide +kernel
theorem dX10_begins_11 : decode cX10_begins 11 = .ok (.iconst 0, 1) := by decide +kernel
theorem dX10_begins_12 : decode cX10_begins 12 = .ok (.putfield 135, 3) := by decide +kernel
theorem dX10_begins_15 : decode cX10_begins 15 = .ok (.aload_n 0, 1) := by decide +kernel
theorem dX10_begins_16 : decode cX10_begins 16 = .ok (.invokevirtual 173, 3) := by decide +kernel
theorem dX10_begins_19 : decode cX10_begins 19 = .ok (.return_, 1) := by decide +kernel
theorem dX10_isOver_0 : decode cX10_isOver 0 = .ok (.aload_n 0, 1) := by decide +kernel
theorem dX10_isOver_1 : decode cX10_isOver 1 = .ok (.iconst 0, 1) := by decide +kernel
theorem dX10_isOver_2 : decode cX10_isOver 2 = .ok (.putfield 128, 3) := by decide +kernel
theorem dX10_isOver_5 : decode cX10_isOver 5 = .ok (.aload_n 0, 1) := by decide +kernel
theorem dX10_isOver_6 : decode cX10_isOver 6 = .ok (.aload_n 0, 1) := by decide +kernel
theorem dX10_isOver_7 : decode cX10_isOver 7 = .ok (.getfield 163, 3) := by decide +kernel
theorem dX10_isOver_10 : decode cX10_isOver 10 = .ok (.putfield 190, 3) := by decide +kernel
theorem dX10_isOver_13 : decode cX10_isOver 13 = .ok (.aload_n 0, 1) := by decide +kernel
theorem dX10_isOver_14 : decode cX10_isOver 14 = .ok (.aload_n 0, 1) := by decide +kernel
theorem dX10_isOver_15 : decode cX10_isOver 15 = .ok (.getfield 163, 3) := by decide +kernel
theorem dX10_isOver_18 : decode cX10_isOver 18 = .ok (.ifCond .ne 7, 3) := by decide +kernel
theorem dX10_isOver_25 : decode cX10_isOver 25 = .ok (.aload_n 0, 1) := by decide +kernel
theorem dX10_isOver_26 : decode cX10_isOver 26 = .ok (.getfield 166, 3) := by decide +kernel
theorem dX10_isOver_29 : decode cX10_isOver 29 = .ok (.putfield 27, 3) := by decide +kernel
theorem dX10_isOver_32 : decode cX10_isOver 32 = .ok (.return_, 1) := by decide +kernel
theorem dX10_isOver_21 : decode cX10_isOver 21 = .ok (.iconst (-1), 1) := by decide +kernel
theorem dX10_isOver_22 : decode cX10_isOver 22 = .ok (.goto 7, 3) := by decide +kernel
theorem sV_X10_131 : SiteV RX10 131 yX10_four cX10_four 3 none 1 := ⟨ml_X10_131, im_X10_four, se_X10_four, ini_X10, co_X10_four, by decide +kernel⟩
theorem sV_X10_138 : SiteV RX10 138 yX10_isByte cX10_isByte 4 (some .boolean) 3 := ⟨ml_X10_138, im_X10_isByte, se_X10_isByte, ini_X10, co_X10_isByte, by decide +kernel⟩
theorem sV_X10_169 : SiteV RX10 169 yX10_is cX10_is 3 (some .boolean) 1 := ⟨ml_X10_169, im_X10_is, se_X10_is, ini_X10, co_X10_is, by decide +kernel⟩
theorem sV_X10_173 : SiteV RX10 173 yX10_next cX10_next 2 none 0 := ⟨ml_X10_173, im_X10_next, se_X10_next, ini_X10, co_X10_next, by decide +kernel⟩
theorem sV_X10_176 : SiteV RX10 176 yX10_takes cX10_takes 3 (some .boolean) 1 := ⟨ml_X10_176, im_X10_takes, se_X10_takes, ini_X10, co_X10_takes, by decide +kernel⟩
theorem sV_X10_179 : SiteV RX10 179 yX10_fails cX10_fails 2 none 1 := ⟨ml_X10_179, im_X10_fails, se_X10_fails, ini_X10, co_X10_fails, by decide +kernel⟩
theorem sV_X10_182 : SiteV RX10 182 yX10_asks cX10_asks 3 none 1 := ⟨ml_X10_182, im_X10_asks, se_X10_asks, ini_X10, co_X10_asks, by decide +kernel⟩
theorem sV_X10_186 : SiteV RX10 186 yX10_number cX10_number 4 (some .int) 2 := ⟨ml_X10_186, im_X10_number, se_X10_number, ini_X10, co_X10_number, by decide +kernel⟩
set_option maxHeartbeats 4000000 in
set_option maxRecDepth 100000 in
theorem t_X10_four (l : Launch) (D : va_G) (cy : Nat → ClassId) (base : Nat) (τ : Nat → Nat) (G : Gh) (a : Nat) (h_a : τ a = 11) (v : Int32) (tp : Int32) (e_tp : tp = G.1 a 6) (r_tp : 0 ≤ tp.toInt ∧ tp.toInt ≤ 1596) : MM l yX10_four cX10_four 3 none 0 0 0 D cy [.ref a, .int v] (PT D cy base τ G) (QT D cy base τ G [11, 55] (fun v g => v = none ∧ (((g.1 a 6).toInt = tp.toInt + 4)))) (RA base) := by
  refine MM.of (by decide) (Nat.le_of_ble_eq_true rfl) ?_
  intro p e s m below meth c C hPT ls hl
  obtain ⟨hx, hb, hr, hml, hown, hts, hlocks, hK, hnm⟩ := C
  obtain ⟨hZ, hT⟩ := hPT
  have hS : va_S (RA base) s.heap s.heap [] := va_S.rf
  have hF : Fr τ [11, 55] G G := Fr.rf
  have hl : lv_has ls 3 [(0, .ref a), (1, .int v)] := hl
  refine lv_bipush (v := 24) hx hb dX10_four_0 (by decide) ?_
  refine lv_istore_n (lv' := [(2, .int 24), (0, .ref a), (1, .int v)]) hx hb dX10_four_2 rfl hl (by decide) rfl (fun ls hl => ?_)
  refine W.loop (σ := Int32 × Int32 × Gh) (fun w1 H locs ls => -8 ≤ w1.1.toInt ∧ w1.1.toInt ≤ 24 ∧ 0 ≤ w1.2.1.toInt ∧ w1.2.1.toInt ≤ 1600 ∧ (8 * w1.2.1.toInt = 8 * tp.toInt + 24 - w1.1.toInt) ∧ w1.2.1 = w1.2.2.1 a 6 ∧ Fr τ [11, 55] G w1.2.2 ∧ TY D cy base τ w1.2.2 H ∧ va_S (RA base) s.heap H locs ∧ lv_has ls 3 [(2, .int w1.1), (0, .ref a), (1, .int v)]) (fun w1 => (w1.1.toInt + 8).toNat) ?_ ((24 : Int32), tp, G) _ _ _ ⟨(by show -8 ≤ (24 : Int32).toInt; decide), (by show (24 : Int32).toInt ≤ 24; decide), (by show 0 ≤ tp.toInt; omega), (by show tp.toInt ≤ 1600; omega), (by show 8 * tp.toInt = 8 * tp.toInt + 24 - (24 : Int); first | omega | assumption | exact rfl), e_tp, hF, hT, hS, lv_sub hl [0, 1, 2] rfl⟩
  intro w1 H locs ls hI ih1
  obtain ⟨x1_2, x1_t, G_1⟩ := w1
  obtain ⟨i1_0, i1_1, i1_2, i1_3, i1_4, i1_5, hF, hT, hS, hl⟩ := hI
  have i1_0 : -8 ≤ x1_2.toInt := i1_0
  have i1_1 : x1_2.toInt ≤ 24 := i1_1
  have i1_2 : 0 ≤ x1_t.toInt := i1_2
  have i1_3 : x1_t.toInt ≤ 1600 := i1_3
  have i1_4 : (8 * x1_t.toInt = 8 * tp.toInt + 24 - x1_2.toInt) := i1_4
  have i1_5 : x1_t = G_1.1 a 6 := i1_5
  have hF : Fr τ [11, 55] G G_1 := hF
  have hT : TY D cy base τ G_1 H := hT
  have hS : va_S (RA base) s.heap H locs := hS
  have hl : lv_has ls 3 [(2, .int x1_2), (0, .ref a), (1, .int v)] := hl
  refine lv_iload_n hx hb dX10_four_3 rfl (lv_at hl 0 rfl) ?_
  refine lv_if_lt (tgt := 36) hx hb dX10_four_4 (by decide) (fun c_2 => ?_) (fun c_2 => ?_)
  · skip
    have tc_2 : x1_2.toInt < 0 := (fa_lt _ _).mp c_2
    exact ret_v hx hb hr hlocks ⟨⟨hS.1, hS.2.1⟩, G_1, hF, ⟨rfl, (by first | (show (G_1.1 a 6).toInt = tp.toInt + 4; rw [← i1_5]; done) | (show (G_1.1 a 6).toInt = tp.toInt + 4; rw [← i1_5]; show x1_t.toInt = tp.toInt + 4; first | omega | assumption))⟩, hT⟩ hS.2.2 (Nat.le_of_ble_eq_true rfl) (Nat.le_of_ble_eq_true rfl) dX10_four_36
  · skip
    have tc_2 : ¬ x1_2.toInt < 0 := fun h => c_2 ((fa_lt _ _).mpr h)
    refine lv_aload_n hx hb dX10_four_7 rfl (lv_at hl 1 rfl) ?_
    refine t_getr cf_11 hx hb hts hown hK hT h_a (k := 5) (P := fun q => τ q = 55) rfl (fun _ h9 => h9) fl_X10_23 (fun _ h9 => h9) dX10_four_8 (fun q_3 eq_3 hq_3 => ?_)
    have eq_3 := (hF.r h_a (by decide) rfl _).symm.trans eq_3
    refine lv_aload_n hx hb dX10_four_11 rfl (lv_at hl 1 rfl) ?_
    refine t_geti cf_11 hx hb hts hown hK hT h_a (k := 6) rfl fl_X10_128 (fun _ h9 => h9) dX10_four_12 (fun z_4 ez_4 rz_4 => ?_)
    have w_5 : x1_t = z_4 := i1_5.trans ez_4.symm
    subst w_5
    refine lv_iload_n hx hb dX10_four_15 rfl (lv_at hl 2 rfl) ?_
    refine lv_iload_n hx hb dX10_four_16 rfl (lv_at hl 0 rfl) ?_
    refine lv_ishr hx hb dX10_four_17 ?_
    refine lv_topi (fun z_6 ez_6 => ?_)
    refine lv_i2b hx hb dX10_four_18 rfl ?_
    refine lv_topi (fun z_7 ez_7 => ?_)
    refine t_bast (n := 1600) (i := x1_t) (x := z_7) rfl (by decide) hx hb hK hT hS hq_3 (hT.len hq_3 (by decide)) ⟨by omega, by omega⟩ trivial dX10_four_19 (fun H locs G_8 eG_8 hT hS => ?_)
    have hF := hF.wI eG_8 hq_3 rfl
    have k_9 : x1_t = G_8.1 a 6 := by rw [eG_8, wI_ne (Or.inl (tag_ne hq_3 h_a (by decide)))]; exact i1_5
    refine lv_aload_n hx hb dX10_four_20 rfl (lv_at hl 1 rfl) ?_
    refine lv_dup hx hb dX10_four_21 rfl ?_
    refine t_geti cf_11 hx hb hts hown hK hT h_a (k := 6) rfl fl_X10_128 (fun _ h9 => h9) dX10_four_22 (fun z_10 ez_10 rz_10 => ?_)
    have w_11 : x1_t = z_10 := k_9.trans ez_10.symm
    subst w_11
    refine lv_iconst (v := 1) hx hb dX10_four_25 (by decide) ?_
    refine lv_iadd hx hb dX10_four_26 ?_
    refine lv_topi (fun z_12 ez_12 => ?_)
    have tz_12 : z_12.toInt = x1_t.toInt + 1 := add_t ez_12 (show -2147483648 ≤ x1_t.toInt + 1 by omega) (show x1_t.toInt + 1 < 2147483648 by omega)
    refine t_puti (x := z_12) cf_11 hx hb hts hown hK hT hS h_a (k := 6) rfl (show 0 ≤ z_12.toInt ∧ z_12.toInt ≤ 1600 from ⟨by omega, by omega⟩) fl_X10_128 (fun _ h9 => h9) rfl rfl rfl dX10_four_27 (fun H locs G_13 eG_13 hT hS => ?_)
    have hF := hF.wI eG_13 h_a rfl
    have k_15 : z_12 = G_13.1 a 6 := by rw [eG_13, wI_at]
    obtain ⟨z_16, ez_16⟩ : ∃ y : Int32, y = x1_2 + (-8) := ⟨_, rfl⟩
    have tz_16 : z_16.toInt = x1_2.toInt + -8 := add_t ez_16 (show -2147483648 ≤ x1_2.toInt + -8 by omega) (show x1_2.toInt + -8 < 2147483648 by omega)
    refine lv_iinc (v := z_16) (lv' := [(2, .int z_16), (0, .ref a), (1, .int v)]) hx hb dX10_four_30 hl (k := 0) rfl (by rw [ez_16]; rfl) (by decide) rfl (fun ls hl => ?_)
    refine lv_goto (tgt := 3) hx hb dX10_four_33 (by decide) ?_
    exact ih1 (z_16, z_12, G_13) _ _ _ (by show (z_16.toInt + 8).toNat < (x1_2.toInt + 8).toNat; omega) ⟨(by show -8 ≤ z_16.toInt; omega), (by show z_16.toInt ≤ 24; omega), (by show 0 ≤ z_12.toInt; omega), (by show z_12.toInt ≤ 1600; omega), by show 8 * z_12.toInt = 8 * tp.toInt + 24 - z_16.toInt; first | omega | assumption, k_15, hF, hT, hS, lv_sub hl [0, 1, 2] rfl⟩
set_option maxHeartbeats 4000000 in
set_option maxRecDepth 100000 in
theorem t_X10_feed (l : Launch) (D : va_G) (cy : Nat → ClassId) (base : Nat) (τ : Nat → Nat) (G : Gh) (a : Nat) (h_a : τ a = 11) (v0 : Int32) (v1 : Int32) (v2 : Int32) (v3 : Int32) (v4 : Int32) : MM l yX10_feed cX10_feed 6 (some .int) 1 0 0 D cy [.ref a, .int v0, .int v1, .int v2, .int v3, .int v4] (PT D cy base τ G) (QT D cy base τ G [11, 55] (fun v g => ∃ r : Int32, v = some (.int r) ∧ (True))) (RA base) := by
  refine MM.of (by decide) (Nat.le_of_ble_eq_true rfl) ?_
  intro p e s m below meth c C hPT ls hl
  obtain ⟨hx, hb, hr, hml, hown, hts, hlocks, hK, hnm⟩ := C
  obtain ⟨hZ, hT⟩ := hPT
  have hS : va_S (RA base) s.heap s.heap [] := va_S.rf
  have hF : Fr τ [11, 55] G G := Fr.rf
  have hl : lv_has ls 6 [(0, .ref a), (1, .int v0), (2, .int v1), (3, .int v2), (4, .int v3), (5, .int v4)] := hl
  refine lv_aload_n hx hb dX10_feed_0 rfl (lv_at hl 0 rfl) ?_
  refine lv_iconst (v := 0) hx hb dX10_feed_1 (by decide) ?_
  refine t_puti (x := 0) cf_11 hx hb hts hown hK hT hS h_a (k := 0) rfl trivial fl_X10_111 (fun _ h9 => h9) rfl rfl rfl dX10_feed_2 (fun H locs G_1 eG_1 hT hS => ?_)
  have hF := hF.wI eG_1 h_a rfl
  refine lv_aload_n hx hb dX10_feed_5 rfl (lv_at hl 0 rfl) ?_
  refine t_geti cf_11 hx hb hts hown hK hT h_a (k := 6) rfl fl_X10_128 (fun _ h9 => h9) dX10_feed_6 (fun z_2 ez_2 rz_2 => ?_)
  have ez_2 : z_2 = G_1.1 a 6 := ez_2
  have rz_2 : 0 ≤ z_2.toInt ∧ z_2.toInt ≤ 1600 := rz_2
  refine lv_bipush (v := 20) hx hb dX10_feed_9 (by decide) ?_
  refine lv_iadd hx hb dX10_feed_11 ?_
  refine lv_topi (fun z_3 ez_3 => ?_)
  have tz_3 : z_3.toInt = z_2.toInt + 20 := add_t ez_3 (show -2147483648 ≤ z_2.toInt + 20 by omega) (show z_2.toInt + 20 < 2147483648 by omega)
  refine lv_sipush (v := 1600) hx hb dX10_feed_12 (by decide) ?_
  refine lv_icmp_le (tgt := 20) hx hb dX10_feed_15 (by decide) (fun c_4 => ?_) (fun c_4 => ?_)
  · skip
    have tc_4 : z_3.toInt ≤ 1600 := (fa_le _ _).mp c_4
    refine lv_aload_n hx hb dX10_feed_20 rfl (lv_at hl 0 rfl) ?_
    refine lv_iload_n hx hb dX10_feed_21 rfl (lv_at hl 1 rfl) ?_
    refine t_callv (runV (As := [.int v0]) (rest := []) ⟨hx, hb, hml, hown, hts⟩ (t_X10_four l D cy base τ G_1 a h_a v0 z_2 ez_2 ⟨by omega, by omega⟩) sV_X10_131 hK (t_recv cf_11 hK hT h_a) ⟨Nat.le_trans hZ hS.1, hT⟩ ⟨Nat.le_of_ble_eq_true rfl, Nat.le_of_ble_eq_true rfl⟩ rfl hl.1 rfl (Nat.le_of_ble_eq_true rfl) dX10_feed_22 ⟨Nat.le_of_ble_eq_true rfl, Nat.le_of_ble_eq_true rfl⟩) hS (fun G_5 H locs hF_5 hr_5 hT hS => ?_)
    have hF := hF.tr hF_5 rfl
    have hr_5_p0 := hr_5
    obtain ⟨z_7, ez_7, hr_5_p0⟩ : ∃ z_7 : Int32, z_7 = G_5.1 a 6 ∧ (z_7.toInt = z_2.toInt + 4) := ⟨_, rfl, hr_5_p0⟩
    have rz_7 : 0 ≤ z_7.toInt ∧ z_7.toInt ≤ 1600 := by rw [ez_7]; exact hT.rgi h_a (by decide) 6
    refine lv_aload_n hx hb dX10_feed_25 rfl (lv_at hl 0 rfl) ?_
    refine lv_iload_n hx hb dX10_feed_26 rfl (lv_at hl 2 rfl) ?_
    refine t_callv (runV (As := [.int v1]) (rest := []) ⟨hx, hb, hml, hown, hts⟩ (t_X10_four l D cy base τ G_5 a h_a v1 z_7 ez_7 ⟨by omega, by omega⟩) sV_X10_131 hK (t_recv cf_11 hK hT h_a) ⟨Nat.le_trans hZ hS.1, hT⟩ ⟨Nat.le_of_ble_eq_true rfl, Nat.le_of_ble_eq_true rfl⟩ rfl hl.1 rfl (Nat.le_of_ble_eq_true rfl) dX10_feed_27 ⟨Nat.le_of_ble_eq_true rfl, Nat.le_of_ble_eq_true rfl⟩) hS (fun G_8 H locs hF_8 hr_8 hT hS => ?_)
    have hF := hF.tr hF_8 rfl
    have hr_8_p0 := hr_8
    obtain ⟨z_10, ez_10, hr_8_p0⟩ : ∃ z_10 : Int32, z_10 = G_8.1 a 6 ∧ (z_10.toInt = z_7.toInt + 4) := ⟨_, rfl, hr_8_p0⟩
    have rz_10 : 0 ≤ z_10.toInt ∧ z_10.toInt ≤ 1600 := by rw [ez_10]; exact hT.rgi h_a (by decide) 6
    refine lv_aload_n hx hb dX10_feed_30 rfl (lv_at hl 0 rfl) ?_
    refine lv_iload_n hx hb dX10_feed_31 rfl (lv_at hl 3 rfl) ?_
    refine t_callv (runV (As := [.int v2]) (rest := []) ⟨hx, hb, hml, hown, hts⟩ (t_X10_four l D cy base τ G_8 a h_a v2 z_10 ez_10 ⟨by omega, by omega⟩) sV_X10_131 hK (t_recv cf_11 hK hT h_a) ⟨Nat.le_trans hZ hS.1, hT⟩ ⟨Nat.le_of_ble_eq_true rfl, Nat.le_of_ble_eq_true rfl⟩ rfl hl.1 rfl (Nat.le_of_ble_eq_true rfl) dX10_feed_32 ⟨Nat.le_of_ble_eq_true rfl, Nat.le_of_ble_eq_true rfl⟩) hS (fun G_11 H locs hF_11 hr_11 hT hS => ?_)
    have hF := hF.tr hF_11 rfl
    have hr_11_p0 := hr_11
    obtain ⟨z_13, ez_13, hr_11_p0⟩ : ∃ z_13 : Int32, z_13 = G_11.1 a 6 ∧ (z_13.toInt = z_10.toInt + 4) := ⟨_, rfl, hr_11_p0⟩
    have rz_13 : 0 ≤ z_13.toInt ∧ z_13.toInt ≤ 1600 := by rw [ez_13]; exact hT.rgi h_a (by decide) 6
    refine lv_aload_n hx hb dX10_feed_35 rfl (lv_at hl 0 rfl) ?_
    refine lv_iload hx hb dX10_feed_36 (lv_at hl 4 rfl) ?_
    refine t_callv (runV (As := [.int v3]) (rest := []) ⟨hx, hb, hml, hown, hts⟩ (t_X10_four l D cy base τ G_11 a h_a v3 z_13 ez_13 ⟨by omega, by omega⟩) sV_X10_131 hK (t_recv cf_11 hK hT h_a) ⟨Nat.le_trans hZ hS.1, hT⟩ ⟨Nat.le_of_ble_eq_true rfl, Nat.le_of_ble_eq_true rfl⟩ rfl hl.1 rfl (Nat.le_of_ble_eq_true rfl) dX10_feed_38 ⟨Nat.le_of_ble_eq_true rfl, Nat.le_of_ble_eq_true rfl⟩) hS (fun G_14 H locs hF_14 hr_14 hT hS => ?_)
    have hF := hF.tr hF_14 rfl
    have hr_14_p0 := hr_14
    obtain ⟨z_16, ez_16, hr_14_p0⟩ : ∃ z_16 : Int32, z_16 = G_14.1 a 6 ∧ (z_16.toInt = z_13.toInt + 4) := ⟨_, rfl, hr_14_p0⟩
    have rz_16 : 0 ≤ z_16.toInt ∧ z_16.toInt ≤ 1600 := by rw [ez_16]; exact hT.rgi h_a (by decide) 6
    refine lv_aload_n hx hb dX10_feed_41 rfl (lv_at hl 0 rfl) ?_
    refine lv_iload hx hb dX10_feed_42 (lv_at hl 5 rfl) ?_
    refine t_callv (runV (As := [.int v4]) (rest := []) ⟨hx, hb, hml, hown, hts⟩ (t_X10_four l D cy base τ G_14 a h_a v4 z_16 ez_16 ⟨by omega, by omega⟩) sV_X10_131 hK (t_recv cf_11 hK hT h_a) ⟨Nat.le_trans hZ hS.1, hT⟩ ⟨Nat.le_of_ble_eq_true rfl, Nat.le_of_ble_eq_true rfl⟩ rfl hl.1 rfl (Nat.le_of_ble_eq_true rfl) dX10_feed_44 ⟨Nat.le_of_ble_eq_true rfl, Nat.le_of_ble_eq_true rfl⟩) hS (fun G_17 H locs hF_17 hr_17 hT hS => ?_)
    have hF := hF.tr hF_17 rfl
    have hr_17_p0 := hr_17
    obtain ⟨z_19, ez_19, hr_17_p0⟩ : ∃ z_19 : Int32, z_19 = G_17.1 a 6 ∧ (z_19.toInt = z_16.toInt + 4) := ⟨_, rfl, hr_17_p0⟩
    have rz_19 : 0 ≤ z_19.toInt ∧ z_19.toInt ≤ 1600 := by rw [ez_19]; exact hT.rgi h_a (by decide) 6
    refine lv_aload_n hx hb dX10_feed_47 rfl (lv_at hl 0 rfl) ?_
    refine t_geti cf_11 hx hb hts hown hK hT h_a (k := 6) rfl fl_X10_128 (fun _ h9 => h9) dX10_feed_48 (fun z_20 ez_20 rz_20 => ?_)
    have w_21 : z_19 = z_20 := ez_19.trans ez_20.symm
    subst w_21
    exact ret_i hx hb hr hlocks ⟨⟨hS.1, hS.2.1⟩, G_17, hF, ⟨_, rfl, trivial⟩, hT⟩ hS.2.2 (Nat.le_of_ble_eq_true rfl) (Nat.le_of_ble_eq_true rfl) dX10_feed_51
  · skip
    have tc_4 : ¬ z_3.toInt ≤ 1600 := fun h => c_4 ((fa_le _ _).mpr h)
    refine lv_iconst (v := (-1)) hx hb dX10_feed_18 (by decide) ?_
    exact ret_i hx hb hr hlocks ⟨⟨hS.1, hS.2.1⟩, G_1, hF, ⟨_, rfl, trivial⟩, hT⟩ hS.2.2 (Nat.le_of_ble_eq_true rfl) (Nat.le_of_ble_eq_true rfl) dX10_feed_19
set_option maxHeartbeats 4000000 in
set_option maxRecDepth 100000 in
theorem t_X10_isByte (l : Launch) (D : va_G) (cy : Nat → ClassId) (base : Nat) (τ : Nat → Nat) (G : Gh) (a : Nat) (h_a : τ a = 11) (v : Int32) (r_v : 0 ≤ v.toInt ∧ v.toInt ≤ 1600) (lo : Int32) (hi : Int32) (ta : Nat) (h_ta : τ ta = 55) (e_ta : G.2.2.1 a 5 = some ta) (tp : Int32) (e_tp : tp = G.1 a 6) (r_tp : 0 ≤ tp.toInt ∧ tp.toInt ≤ 1600) (bv : Int32) (e_bv : bv = G.1 ta v.toNatClampNeg) : MM l yX10_isByte cX10_isByte 4 (some .boolean) 0 0 0 D cy [.ref a, .int v, .int lo, .int hi] (PT D cy base τ G) (PuI (fun r => ((r = 1 ∧ v.toInt < tp.toInt ∧ lo.toInt ≤ bv.toInt ∧ bv.toInt ≤ hi.toInt) ∨ (r = 0 ∧ (tp.toInt ≤ v.toInt ∨ bv.toInt < lo.toInt ∨ hi.toInt < bv.toInt))))) noF := by
  refine MM.of (by decide) (Nat.le_of_ble_eq_true rfl) ?_
  intro p e s m below meth c C hPT ls hl
  obtain ⟨hx, hb, hr, hml, hown, hts, hlocks, hK, hnm⟩ := C
  obtain ⟨hZ, hT⟩ := hPT
  have hS : va_S (RA base) s.heap s.heap [] := va_S.rf
  have hl : lv_has ls 4 [(0, .ref a), (1, .int v), (2, .int lo), (3, .int hi)] := hl
  refine lv_iload_n hx hb dX10_isByte_0 rfl (lv_at hl 1 rfl) ?_
  refine lv_aload_n hx hb dX10_isByte_1 rfl (lv_at hl 0 rfl) ?_
  refine t_geti cf_11 hx hb hts hown hK hT h_a (k := 6) rfl fl_X10_128 (fun _ h9 => h9) dX10_isByte_2 (fun z_1 ez_1 rz_1 => ?_)
  have w_2 : tp = z_1 := e_tp.trans ez_1.symm
  subst w_2
  refine lv_icmp_ge (tgt := 32) hx hb dX10_isByte_5 (by decide) (fun c_3 => ?_) (fun c_3 => ?_)
  · skip
    have tc_3 : tp.toInt ≤ v.toInt := (fa_le _ _).mp c_3
    refine lv_iconst (v := 0) hx hb dX10_isByte_32 (by decide) ?_
    exact ret_z (ty := .boolean) hx hb hr rfl hlocks ⟨rfl, _, rfl, (Or.inr ⟨rfl, (by omega)⟩)⟩ (fun _ h => absurd h List.not_mem_nil) (Nat.le_refl _) (Nat.le_refl _) dX10_isByte_33
  · skip
    have tc_3 : ¬ tp.toInt ≤ v.toInt := fun h => c_3 ((fa_le _ _).mpr h)
    refine lv_aload_n hx hb dX10_isByte_8 rfl (lv_at hl 0 rfl) ?_
    refine t_getr cf_11 hx hb hts hown hK hT h_a (k := 5) (P := fun q => τ q = 55) rfl (fun _ h9 => h9) fl_X10_23 (fun _ h9 => h9) dX10_isByte_9 (fun q_4 eq_4 hq_4 => ?_)
    have w_5 : ta = q_4 := Option.some.inj (e_ta.symm.trans eq_4)
    subst w_5
    refine lv_iload_n hx hb dX10_isByte_12 rfl (lv_at hl 1 rfl) ?_
    refine t_bald (n := 1600) (i := v) rfl (by decide) hx hb hK hT h_ta (hT.len h_ta (by decide)) ⟨by omega, by omega⟩ dX10_isByte_13 (fun z_6 ez_6 rz_6 => ?_)
    have w_7 : bv = z_6 := e_bv.trans ez_6.symm
    subst w_7
    refine lv_iload_n hx hb dX10_isByte_14 rfl (lv_at hl 2 rfl) ?_
    refine lv_icmp_lt (tgt := 32) hx hb dX10_isByte_15 (by decide) (fun c_8 => ?_) (fun c_8 => ?_)
    · skip
      have tc_8 : bv.toInt < lo.toInt := (fa_lt _ _).mp c_8
      have mc_8 : lo.toInt ≤ 2147483647 := max_t lo
      refine lv_iconst (v := 0) hx hb dX10_isByte_32 (by decide) ?_
      exact ret_z (ty := .boolean) hx hb hr rfl hlocks ⟨rfl, _, rfl, (Or.inr ⟨rfl, (by omega)⟩)⟩ (fun _ h => absurd h List.not_mem_nil) (Nat.le_refl _) (Nat.le_refl _) dX10_isByte_33
    · skip
      have tc_8 : ¬ bv.toInt < lo.toInt := fun h => c_8 ((fa_lt _ _).mpr h)
      refine lv_aload_n hx hb dX10_isByte_18 rfl (lv_at hl 0 rfl) ?_
      refine t_getr cf_11 hx hb hts hown hK hT h_a (k := 5) (P := fun q => τ q = 55) rfl (fun _ h9 => h9) fl_X10_23 (fun _ h9 => h9) dX10_isByte_19 (fun q_9 eq_9 hq_9 => ?_)
      have w_10 : ta = q_9 := Option.some.inj (e_ta.symm.trans eq_9)
      subst w_10
      refine lv_iload_n hx hb dX10_isByte_22 rfl (lv_at hl 1 rfl) ?_
      refine t_bald (n := 1600) (i := v) rfl (by decide) hx hb hK hT h_ta (hT.len h_ta (by decide)) ⟨by omega, by omega⟩ dX10_isByte_23 (fun z_11 ez_11 rz_11 => ?_)
      have w_12 : bv = z_11 := e_bv.trans ez_11.symm
      subst w_12
      refine lv_iload_n hx hb dX10_isByte_24 rfl (lv_at hl 3 rfl) ?_
      refine lv_icmp_gt (tgt := 32) hx hb dX10_isByte_25 (by decide) (fun c_13 => ?_) (fun c_13 => ?_)
      · skip
        have tc_13 : hi.toInt < bv.toInt := (fa_lt _ _).mp c_13
        have mc_13 : bv.toInt ≤ 2147483647 := max_t bv
        refine lv_iconst (v := 0) hx hb dX10_isByte_32 (by decide) ?_
        exact ret_z (ty := .boolean) hx hb hr rfl hlocks ⟨rfl, _, rfl, (Or.inr ⟨rfl, (by omega)⟩)⟩ (fun _ h => absurd h List.not_mem_nil) (Nat.le_refl _) (Nat.le_refl _) dX10_isByte_33
      · skip
        have tc_13 : ¬ hi.toInt < bv.toInt := fun h => c_13 ((fa_lt _ _).mpr h)
        refine lv_iconst (v := 1) hx hb dX10_isByte_28 (by decide) ?_
        refine lv_goto (tgt := 33) hx hb dX10_isByte_29 (by decide) ?_
        exact ret_z (ty := .boolean) hx hb hr rfl hlocks ⟨rfl, _, rfl, (Or.inl ⟨rfl, (by omega), (by omega), (by omega)⟩)⟩ (fun _ h => absurd h List.not_mem_nil) (Nat.le_refl _) (Nat.le_refl _) dX10_isByte_33
set_option maxHeartbeats 4000000 in
set_option maxRecDepth 100000 in
theorem t_X10_isGood (l : Launch) (D : va_G) (cy : Nat → ClassId) (base : Nat) (τ : Nat → Nat) (G : Gh) (a : Nat) (h_a : τ a = 11) (bd0 : Int32) (e_bd0 : bd0 = G.1 a 12) : MM l yX10_isGood cX10_isGood 1 (some .boolean) 0 0 0 D cy [.ref a] (PT D cy base τ G) (PuI (fun r => ((r = 1 ∧ bd0.toInt = 0) ∨ (r = 0 ∧ bd0.toInt ≠ 0)))) noF := by
  refine MM.of (by decide) (Nat.le_of_ble_eq_true rfl) ?_
  intro p e s m below meth c C hPT ls hl
  obtain ⟨hx, hb, hr, hml, hown, hts, hlocks, hK, hnm⟩ := C
  obtain ⟨hZ, hT⟩ := hPT
  have hS : va_S (RA base) s.heap s.heap [] := va_S.rf
  have hl : lv_has ls 1 [(0, .ref a)] := hl
  refine lv_aload_n hx hb dX10_isGood_0 rfl (lv_at hl 0 rfl) ?_
  refine t_geti cf_11 hx hb hts hown hK hT h_a (k := 12) rfl fl_X10_163 (fun _ h9 => h9) dX10_isGood_1 (fun z_1 ez_1 rz_1 => ?_)
  have w_2 : bd0 = z_1 := e_bd0.trans ez_1.symm
  subst w_2
  refine lv_if_ne (tgt := 11) hx hb dX10_isGood_4 (by decide) (fun c_3 => ?_) (fun c_3 => ?_)
  · skip
    have tc_3 : ¬ bd0.toInt = 0 := fun h => c_3 ((fa_eq _ _).mpr h)
    refine lv_iconst (v := 0) hx hb dX10_isGood_11 (by decide) ?_
    exact ret_z (ty := .boolean) hx hb hr rfl hlocks ⟨rfl, _, rfl, (Or.inr ⟨rfl, (by omega)⟩)⟩ (fun _ h => absurd h List.not_mem_nil) (Nat.le_refl _) (Nat.le_refl _) dX10_isGood_12
  · skip
    have tc_3 : bd0.toInt = 0 := (fa_eq _ _).mp c_3
    refine lv_iconst (v := 1) hx hb dX10_isGood_7 (by decide) ?_
    refine lv_goto (tgt := 12) hx hb dX10_isGood_8 (by decide) ?_
    exact ret_z (ty := .boolean) hx hb hr rfl hlocks ⟨rfl, _, rfl, (Or.inl ⟨rfl, (by omega)⟩)⟩ (fun _ h => absurd h List.not_mem_nil) (Nat.le_refl _) (Nat.le_refl _) dX10_isGood_12
set_option maxHeartbeats 4000000 in
set_option maxRecDepth 100000 in
theorem t_X10_next (l : Launch) (D : va_G) (cy : Nat → ClassId) (base : Nat) (τ : Nat → Nat) (G : Gh) (a : Nat) (h_a : τ a = 11) (ta : Nat) (h_ta : τ ta = 55) (e_ta : G.2.2.1 a 5 = some ta) (tp : Int32) (e_tp : tp = G.1 a 6) (r_tp : 0 ≤ tp.toInt ∧ tp.toInt ≤ 1600) (a0 : Int32) (e_a0 : a0 = G.1 a 7) (r_a0 : 0 ≤ a0.toInt ∧ a0.toInt ≤ 1600) (bd0 : Int32) (e_bd0 : bd0 = G.1 a 12) (hat : a0.toInt ≤ tp.toInt) : MM l yX10_next cX10_next 2 none 1 0 0 D cy [.ref a] (PT D cy base τ G) (QT D cy base τ G [11] (fun v g => v = none ∧ ((a0.toInt ≤ (g.1 a 7).toInt) ∧ ((g.1 a 7).toInt ≤ tp.toInt) ∧ ((g.1 a 8).toInt = 0 ∨ a0.toInt < (g.1 a 7).toInt) ∧ g.1 a 6 = G.1 a 6 ∧ g.1 a 12 = G.1 a 12))) (RA base) := by
  refine MM.of (by decide) (Nat.le_of_ble_eq_true rfl) ?_
  intro p e s m below meth c C hPT ls hl
  obtain ⟨hx, hb, hr, hml, hown, hts, hlocks, hK, hnm⟩ := C
  obtain ⟨hZ, hT⟩ := hPT
  have hS : va_S (RA base) s.heap s.heap [] := va_S.rf
  have hF : Fr τ [11] G G := Fr.rf
  have hl : lv_has ls 2 [(0, .ref a)] := hl
  refine W.loop (σ := Int32 × Gh) (fun w1 H locs ls => 0 ≤ w1.1.toInt ∧ w1.1.toInt ≤ 1600 ∧ (a0.toInt ≤ w1.1.toInt) ∧ (w1.1.toInt ≤ tp.toInt) ∧ tp = w1.2.1 a 6 ∧ bd0 = w1.2.1 a 12 ∧ w1.1 = w1.2.1 a 7 ∧ Fr τ [11] G w1.2 ∧ TY D cy base τ w1.2 H ∧ va_S (RA base) s.heap H locs ∧ lv_has ls 2 [(0, .ref a)]) (fun w1 => (tp.toInt - w1.1.toInt).toNat) ?_ (a0, G) _ _ _ ⟨(by show 0 ≤ a0.toInt; omega), (by show a0.toInt ≤ 1600; omega), (by show a0.toInt ≤ a0.toInt; first | omega | assumption | exact rfl), (by show a0.toInt ≤ tp.toInt; first | omega | assumption | exact rfl), (by show tp = G.1 a 6; exact e_tp), (by show bd0 = G.1 a 12; exact e_bd0), e_a0, hF, hT, hS, lv_sub hl [0] rfl⟩
  intro w1 H locs ls hI ih1
  obtain ⟨x1_at, G_1⟩ := w1
  obtain ⟨i1_0, i1_1, i1_2, i1_3, i1_4, i1_5, i1_6, hF, hT, hS, hl⟩ := hI
  have i1_0 : 0 ≤ x1_at.toInt := i1_0
  have i1_1 : x1_at.toInt ≤ 1600 := i1_1
  have i1_2 : (a0.toInt ≤ x1_at.toInt) := i1_2
  have i1_3 : (x1_at.toInt ≤ tp.toInt) := i1_3
  have i1_4 : tp = G_1.1 a 6 := i1_4
  have i1_5 : bd0 = G_1.1 a 12 := i1_5
  have i1_6 : x1_at = G_1.1 a 7 := i1_6
  have hF : Fr τ [11] G G_1 := hF
  have hT : TY D cy base τ G_1 H := hT
  have hS : va_S (RA base) s.heap H locs := hS
  have hl : lv_has ls 2 [(0, .ref a)] := hl
  refine lv_aload_n hx hb dX10_next_0 rfl (lv_at hl 0 rfl) ?_
  refine lv_aload_n hx hb dX10_next_1 rfl (lv_at hl 0 rfl) ?_
  refine t_geti cf_11 hx hb hts hown hK hT h_a (k := 7) rfl fl_X10_135 (fun _ h9 => h9) dX10_next_2 (fun z_2 ez_2 rz_2 => ?_)
  have w_3 : x1_at = z_2 := i1_6.trans ez_2.symm
  subst w_3
  refine lv_bipush (v := 32) hx hb dX10_next_5 (by decide) ?_
  refine lv_bipush (v := 32) hx hb dX10_next_7 (by decide) ?_
  obtain ⟨z_4, ez_4⟩ : ∃ y : Int32, y = G_1.1 ta x1_at.toNatClampNeg := ⟨_, rfl⟩
  have ez_4 : z_4 = G.1 ta x1_at.toNatClampNeg := ez_4.trans (hF.i h_ta (by decide) rfl _)
  refine pu_calli (runV (As := [.int x1_at, .int 32, .int 32]) (rest := []) ⟨hx, hb, hml, hown, hts⟩ (t_X10_isByte l D cy base τ G_1 a h_a x1_at ⟨by omega, by omega⟩ 32 32 ta h_ta ((hF.r h_a (by decide) rfl _).trans e_ta) tp i1_4 ⟨by omega, by omega⟩ z_4 (ez_4.trans (hF.i h_ta (by decide) rfl _).symm)) sV_X10_138 hK (t_recv cf_11 hK hT h_a) ⟨Nat.le_trans hZ hS.1, hT⟩ ⟨Nat.le_of_ble_eq_true rfl, Nat.le_of_ble_eq_true rfl⟩ rfl hl.1 rfl (Nat.le_of_ble_eq_true rfl) dX10_next_9 ⟨Nat.le_of_ble_eq_true rfl, Nat.le_of_ble_eq_true rfl⟩) (fun r_5 hr_5 => ?_)
  have hr_5_c := hr_5
  rcases hr_5_c with hr_5_0 | hr_5_1
  · skip
    obtain ⟨er_5, hr_5_0_f0, hr_5_0_f1, hr_5_0_f2⟩ := hr_5_0
    have hr_5_0_f0 : x1_at.toInt < tp.toInt := hr_5_0_f0
    have hr_5_0_f1 : 32 ≤ z_4.toInt := hr_5_0_f1
    have hr_5_0_f2 : z_4.toInt ≤ 32 := hr_5_0_f2
    subst er_5
    refine W.eq (g2 := F0 m 12 ls [.int 1]) rfl ?_
    refine lv_if_ne (tgt := 30) hx hb dX10_next_12 (by decide) (fun _ => ?_) (fun c_6 => absurd c_6 (by decide))
    refine lv_aload_n hx hb dX10_next_30 rfl (lv_at hl 0 rfl) ?_
    refine lv_dup hx hb dX10_next_31 rfl ?_
    refine t_geti cf_11 hx hb hts hown hK hT h_a (k := 7) rfl fl_X10_135 (fun _ h9 => h9) dX10_next_32 (fun z_7 ez_7 rz_7 => ?_)
    have w_8 : x1_at = z_7 := i1_6.trans ez_7.symm
    subst w_8
    refine lv_iconst (v := 1) hx hb dX10_next_35 (by decide) ?_
    refine lv_iadd hx hb dX10_next_36 ?_
    refine lv_topi (fun z_9 ez_9 => ?_)
    have tz_9 : z_9.toInt = x1_at.toInt + 1 := add_t ez_9 (show -2147483648 ≤ x1_at.toInt + 1 by omega) (show x1_at.toInt + 1 < 2147483648 by omega)
    refine t_puti (x := z_9) cf_11 hx hb hts hown hK hT hS h_a (k := 7) rfl (show 0 ≤ z_9.toInt ∧ z_9.toInt ≤ 1600 from ⟨by omega, by omega⟩) fl_X10_135 (fun _ h9 => h9) rfl rfl rfl dX10_next_37 (fun H locs G_10 eG_10 hT hS => ?_)
    have hF := hF.wI eG_10 h_a rfl
    have k_11 : tp = G_10.1 a 6 := by rw [eG_10, wI_ne (Or.inr (by decide))]; exact i1_4
    have k_12 : bd0 = G_10.1 a 12 := by rw [eG_10, wI_ne (Or.inr (by decide))]; exact i1_5
    have k_14 : z_9 = G_10.1 a 7 := by rw [eG_10, wI_at]
    refine lv_goto (tgt := 0) hx hb dX10_next_40 (by decide) ?_
    exact ih1 (z_9, G_10) _ _ _ (by show (tp.toInt - z_9.toInt).toNat < (tp.toInt - x1_at.toInt).toNat; omega) ⟨(by show 0 ≤ z_9.toInt; omega), (by show z_9.toInt ≤ 1600; omega), by show a0.toInt ≤ z_9.toInt; first | omega | assumption, by show z_9.toInt ≤ tp.toInt; first | omega | assumption, (show tp = G_10.1 a 6 from by first | exact k_11 | omega), (show bd0 = G_10.1 a 12 from by first | exact k_12 | omega), k_14, hF, hT, hS, lv_sub hl [0] rfl⟩
  · skip
    obtain ⟨er_5, hr_5_1_f0⟩ := hr_5_1
    have hr_5_1_f0 : (tp.toInt ≤ x1_at.toInt ∨ z_4.toInt < 32 ∨ 32 < z_4.toInt) := hr_5_1_f0
    subst er_5
    refine W.eq (g2 := F0 m 12 ls [.int 0]) rfl ?_
    refine lv_if_ne (tgt := 30) hx hb dX10_next_12 (by decide) (fun c_15 => absurd rfl c_15) (fun _ => ?_)
    refine lv_aload_n hx hb dX10_next_15 rfl (lv_at hl 0 rfl) ?_
    refine lv_aload_n hx hb dX10_next_16 rfl (lv_at hl 0 rfl) ?_
    refine t_geti cf_11 hx hb hts hown hK hT h_a (k := 7) rfl fl_X10_135 (fun _ h9 => h9) dX10_next_17 (fun z_16 ez_16 rz_16 => ?_)
    have w_17 : x1_at = z_16 := i1_6.trans ez_16.symm
    subst w_17
    refine lv_bipush (v := 10) hx hb dX10_next_20 (by decide) ?_
    refine lv_bipush (v := 10) hx hb dX10_next_22 (by decide) ?_
    refine pu_calli (runV (As := [.int x1_at, .int 10, .int 10]) (rest := []) ⟨hx, hb, hml, hown, hts⟩ (t_X10_isByte l D cy base τ G_1 a h_a x1_at ⟨by omega, by omega⟩ 10 10 ta h_ta ((hF.r h_a (by decide) rfl _).trans e_ta) tp i1_4 ⟨by omega, by omega⟩ z_4 (ez_4.trans (hF.i h_ta (by decide) rfl _).symm)) sV_X10_138 hK (t_recv cf_11 hK hT h_a) ⟨Nat.le_trans hZ hS.1, hT⟩ ⟨Nat.le_of_ble_eq_true rfl, Nat.le_of_ble_eq_true rfl⟩ rfl hl.1 rfl (Nat.le_of_ble_eq_true rfl) dX10_next_24 ⟨Nat.le_of_ble_eq_true rfl, Nat.le_of_ble_eq_true rfl⟩) (fun r_18 hr_18 => ?_)
    have hr_18_c := hr_18
    rcases hr_18_c with hr_18_0 | hr_18_1
    · skip
      obtain ⟨er_18, hr_18_0_f0, hr_18_0_f1, hr_18_0_f2⟩ := hr_18_0
      have hr_18_0_f0 : x1_at.toInt < tp.toInt := hr_18_0_f0
      have hr_18_0_f1 : 10 ≤ z_4.toInt := hr_18_0_f1
      have hr_18_0_f2 : z_4.toInt ≤ 10 := hr_18_0_f2
      subst er_18
      refine W.eq (g2 := F0 m 27 ls [.int 1]) rfl ?_
      refine lv_if_eq (tgt := 43) hx hb dX10_next_27 (by decide) (fun c_19 => absurd c_19 (by decide)) (fun _ => ?_)
      refine lv_aload_n hx hb dX10_next_30 rfl (lv_at hl 0 rfl) ?_
      refine lv_dup hx hb dX10_next_31 rfl ?_
      refine t_geti cf_11 hx hb hts hown hK hT h_a (k := 7) rfl fl_X10_135 (fun _ h9 => h9) dX10_next_32 (fun z_20 ez_20 rz_20 => ?_)
      have w_21 : x1_at = z_20 := i1_6.trans ez_20.symm
      subst w_21
      refine lv_iconst (v := 1) hx hb dX10_next_35 (by decide) ?_
      refine lv_iadd hx hb dX10_next_36 ?_
      refine lv_topi (fun z_22 ez_22 => ?_)
      have tz_22 : z_22.toInt = x1_at.toInt + 1 := add_t ez_22 (show -2147483648 ≤ x1_at.toInt + 1 by omega) (show x1_at.toInt + 1 < 2147483648 by omega)
      refine t_puti (x := z_22) cf_11 hx hb hts hown hK hT hS h_a (k := 7) rfl (show 0 ≤ z_22.toInt ∧ z_22.toInt ≤ 1600 from ⟨by omega, by omega⟩) fl_X10_135 (fun _ h9 => h9) rfl rfl rfl dX10_next_37 (fun H locs G_23 eG_23 hT hS => ?_)
      have hF := hF.wI eG_23 h_a rfl
      have k_24 : tp = G_23.1 a 6 := by rw [eG_23, wI_ne (Or.inr (by decide))]; exact i1_4
      have k_25 : bd0 = G_23.1 a 12 := by rw [eG_23, wI_ne (Or.inr (by decide))]; exact i1_5
      have k_27 : z_22 = G_23.1 a 7 := by rw [eG_23, wI_at]
      refine lv_goto (tgt := 0) hx hb dX10_next_40 (by decide) ?_
      exact ih1 (z_22, G_23) _ _ _ (by show (tp.toInt - z_22.toInt).toNat < (tp.toInt - x1_at.toInt).toNat; omega) ⟨(by show 0 ≤ z_22.toInt; omega), (by show z_22.toInt ≤ 1600; omega), by show a0.toInt ≤ z_22.toInt; first | omega | assumption, by show z_22.toInt ≤ tp.toInt; first | omega | assumption, (show tp = G_23.1 a 6 from by first | exact k_24 | omega), (show bd0 = G_23.1 a 12 from by first | exact k_25 | omega), k_27, hF, hT, hS, lv_sub hl [0] rfl⟩
    · skip
      obtain ⟨er_18, hr_18_1_f0⟩ := hr_18_1
      have hr_18_1_f0 : (tp.toInt ≤ x1_at.toInt ∨ z_4.toInt < 10 ∨ 10 < z_4.toInt) := hr_18_1_f0
      subst er_18
      refine W.eq (g2 := F0 m 27 ls [.int 0]) rfl ?_
      refine lv_if_eq (tgt := 43) hx hb dX10_next_27 (by decide) (fun _ => ?_) (fun c_28 => absurd (by decide) c_28)
      refine lv_aload_n hx hb dX10_next_43 rfl (lv_at hl 0 rfl) ?_
      refine lv_aload_n hx hb dX10_next_44 rfl (lv_at hl 0 rfl) ?_
      refine t_geti cf_11 hx hb hts hown hK hT h_a (k := 7) rfl fl_X10_135 (fun _ h9 => h9) dX10_next_45 (fun z_29 ez_29 rz_29 => ?_)
      have w_30 : x1_at = z_29 := i1_6.trans ez_29.symm
      subst w_30
      refine t_puti (x := x1_at) cf_11 hx hb hts hown hK hT hS h_a (k := 9) rfl trivial fl_X10_142 (fun _ h9 => h9) rfl rfl rfl dX10_next_48 (fun H locs G_31 eG_31 hT hS => ?_)
      have hF := hF.wI eG_31 h_a rfl
      have k_32 : tp = G_31.1 a 6 := by rw [eG_31, wI_ne (Or.inr (by decide))]; exact i1_4
      have k_33 : bd0 = G_31.1 a 12 := by rw [eG_31, wI_ne (Or.inr (by decide))]; exact i1_5
      have k_34 : x1_at = G_31.1 a 7 := by rw [eG_31, wI_ne (Or.inr (by decide))]; exact i1_6
      have k_35 : x1_at = G_31.1 a 9 := by rw [eG_31, wI_at]
      refine lv_aload_n hx hb dX10_next_51 rfl (lv_at hl 0 rfl) ?_
      refine lv_iconst (v := 0) hx hb dX10_next_52 (by decide) ?_
      refine t_puti (x := 0) cf_11 hx hb hts hown hK hT hS h_a (k := 10) rfl trivial fl_X10_145 (fun _ h9 => h9) rfl rfl rfl dX10_next_53 (fun H locs G_36 eG_36 hT hS => ?_)
      have hF := hF.wI eG_36 h_a rfl
      have k_37 : tp = G_36.1 a 6 := by rw [eG_36, wI_ne (Or.inr (by decide))]; exact k_32
      have k_38 : bd0 = G_36.1 a 12 := by rw [eG_36, wI_ne (Or.inr (by decide))]; exact k_33
      have k_39 : x1_at = G_36.1 a 7 := by rw [eG_36, wI_ne (Or.inr (by decide))]; exact k_34
      have k_40 : x1_at = G_36.1 a 9 := by rw [eG_36, wI_ne (Or.inr (by decide))]; exact k_35
      have k_41 : (0 : Int32) = G_36.1 a 10 := by rw [eG_36, wI_at]
      refine lv_aload_n hx hb dX10_next_56 rfl (lv_at hl 0 rfl) ?_
      refine lv_lconst (v := 0) hx hb dX10_next_57 (by decide) ?_
      refine t_putl (x := 0) cf_11 hx hb hts hown hK hT hS h_a (k := 11) rfl fl_X10_148 (fun _ h9 => h9) rfl rfl rfl dX10_next_58 (fun H locs G_42 eG_42 hT hS => ?_)
      have hF := hF.wL eG_42 h_a rfl
      have k_43 : tp = G_42.1 a 6 := by rw [eG_42]; exact k_37
      have k_44 : bd0 = G_42.1 a 12 := by rw [eG_42]; exact k_38
      have k_45 : x1_at = G_42.1 a 7 := by rw [eG_42]; exact k_39
      have k_46 : x1_at = G_42.1 a 9 := by rw [eG_42]; exact k_40
      have k_47 : 0 = G_42.1 a 10 := by rw [eG_42]; exact k_41
      refine lv_aload_n hx hb dX10_next_61 rfl (lv_at hl 0 rfl) ?_
      refine t_geti cf_11 hx hb hts hown hK hT h_a (k := 7) rfl fl_X10_135 (fun _ h9 => h9) dX10_next_62 (fun z_48 ez_48 rz_48 => ?_)
      have w_49 : x1_at = z_48 := k_45.trans ez_48.symm
      subst w_49
      refine lv_aload_n hx hb dX10_next_65 rfl (lv_at hl 0 rfl) ?_
      refine t_geti cf_11 hx hb hts hown hK hT h_a (k := 6) rfl fl_X10_128 (fun _ h9 => h9) dX10_next_66 (fun z_50 ez_50 rz_50 => ?_)
      have w_51 : tp = z_50 := k_43.trans ez_50.symm
      subst w_51
      refine lv_icmp_ne (tgt := 80) hx hb dX10_next_69 (by decide) (fun c_52 => ?_) (fun c_52 => ?_)
      · skip
        have tc_52 : ¬ x1_at.toInt = tp.toInt := fun h => c_52 ((fa_eq _ _).mpr h)
        refine lv_aload_n hx hb dX10_next_80 rfl (lv_at hl 0 rfl) ?_
        refine lv_aload_n hx hb dX10_next_81 rfl (lv_at hl 0 rfl) ?_
        refine t_geti cf_11 hx hb hts hown hK hT h_a (k := 7) rfl fl_X10_135 (fun _ h9 => h9) dX10_next_82 (fun z_53 ez_53 rz_53 => ?_)
        have w_54 : x1_at = z_53 := k_45.trans ez_53.symm
        subst w_54
        refine lv_bipush (v := 97) hx hb dX10_next_85 (by decide) ?_
        refine lv_bipush (v := 122) hx hb dX10_next_87 (by decide) ?_
        refine pu_calli (runV (As := [.int x1_at, .int 97, .int 122]) (rest := []) ⟨hx, hb, hml, hown, hts⟩ (t_X10_isByte l D cy base τ G_42 a h_a x1_at ⟨by omega, by omega⟩ 97 122 ta h_ta ((hF.r h_a (by decide) rfl _).trans e_ta) tp k_43 ⟨by omega, by omega⟩ z_4 (ez_4.trans (hF.i h_ta (by decide) rfl _).symm)) sV_X10_138 hK (t_recv cf_11 hK hT h_a) ⟨Nat.le_trans hZ hS.1, hT⟩ ⟨Nat.le_of_ble_eq_true rfl, Nat.le_of_ble_eq_true rfl⟩ rfl hl.1 rfl (Nat.le_of_ble_eq_true rfl) dX10_next_89 ⟨Nat.le_of_ble_eq_true rfl, Nat.le_of_ble_eq_true rfl⟩) (fun r_55 hr_55 => ?_)
        have hr_55_c := hr_55
        rcases hr_55_c with hr_55_0 | hr_55_1
        · skip
          obtain ⟨er_55, hr_55_0_f0, hr_55_0_f1, hr_55_0_f2⟩ := hr_55_0
          have hr_55_0_f0 : x1_at.toInt < tp.toInt := hr_55_0_f0
          have hr_55_0_f1 : 97 ≤ z_4.toInt := hr_55_0_f1
          have hr_55_0_f2 : z_4.toInt ≤ 122 := hr_55_0_f2
          subst er_55
          refine W.eq (g2 := F0 m 92 ls [.int 1]) rfl ?_
          refine lv_if_eq (tgt := 188) hx hb dX10_next_92 (by decide) (fun c_56 => absurd c_56 (by decide)) (fun _ => ?_)
          refine lv_aload_n hx hb dX10_next_95 rfl (lv_at hl 0 rfl) ?_
          refine lv_iconst (v := 1) hx hb dX10_next_96 (by decide) ?_
          refine t_puti (x := 1) cf_11 hx hb hts hown hK hT hS h_a (k := 8) rfl trivial fl_X10_152 (fun _ h9 => h9) rfl rfl rfl dX10_next_97 (fun H locs G_57 eG_57 hT hS => ?_)
          have hF := hF.wI eG_57 h_a rfl
          have k_58 : tp = G_57.1 a 6 := by rw [eG_57, wI_ne (Or.inr (by decide))]; exact k_43
          have k_59 : bd0 = G_57.1 a 12 := by rw [eG_57, wI_ne (Or.inr (by decide))]; exact k_44
          have k_60 : x1_at = G_57.1 a 7 := by rw [eG_57, wI_ne (Or.inr (by decide))]; exact k_45
          have k_61 : x1_at = G_57.1 a 9 := by rw [eG_57, wI_ne (Or.inr (by decide))]; exact k_46
          have k_62 : 0 = G_57.1 a 10 := by rw [eG_57, wI_ne (Or.inr (by decide))]; exact k_47
          have k_63 : (1 : Int32) = G_57.1 a 8 := by rw [eG_57, wI_at]
          refine lv_iconst (v := 0) hx hb dX10_next_100 (by decide) ?_
          refine lv_istore_n (lv' := [(1, .int 0), (0, .ref a)]) hx hb dX10_next_101 rfl hl (by decide) rfl (fun ls hl => ?_)
          refine W.loop (σ := Int32 × Int32 × Gh) (fun w64 H locs ls => 0 ≤ w64.2.1.toInt ∧ w64.2.1.toInt ≤ 1600 ∧ (a0.toInt ≤ w64.2.1.toInt) ∧ (w64.2.1.toInt ≤ tp.toInt) ∧ (a0.toInt < w64.2.1.toInt ∨ (w64.2.1.toInt < tp.toInt ∧ 97 ≤ (G.1 ta w64.2.1.toNatClampNeg).toInt ∧ (G.1 ta w64.2.1.toNatClampNeg).toInt ≤ 122)) ∧ tp = w64.2.2.1 a 6 ∧ bd0 = w64.2.2.1 a 12 ∧ (1 : Int32) = w64.2.2.1 a 8 ∧ w64.2.1 = w64.2.2.1 a 7 ∧ Fr τ [11] G w64.2.2 ∧ TY D cy base τ w64.2.2 H ∧ va_S (RA base) s.heap H locs ∧ lv_has ls 2 [(1, .int w64.1), (0, .ref a)]) (fun w64 => (tp.toInt - w64.2.1.toInt).toNat) ?_ ((0 : Int32), x1_at, G_57) _ _ _ ⟨(by show 0 ≤ x1_at.toInt; omega), (by show x1_at.toInt ≤ 1600; omega), (by show a0.toInt ≤ x1_at.toInt; first | omega | assumption | exact rfl), (by show x1_at.toInt ≤ tp.toInt; first | omega | assumption | exact rfl), (by show a0.toInt < x1_at.toInt ∨ (x1_at.toInt < tp.toInt ∧ 97 ≤ (G.1 ta x1_at.toNatClampNeg).toInt ∧ (G.1 ta x1_at.toNatClampNeg).toInt ≤ 122); rw [← ez_4]; omega), (by show tp = G_57.1 a 6; exact k_58), (by show bd0 = G_57.1 a 12; exact k_59), (by show (1 : Int32) = G_57.1 a 8; exact k_63), k_60, hF, hT, hS, lv_sub hl [0, 1] rfl⟩
          intro w64 H locs ls hI ih64
          obtain ⟨x64_1, x64_at, G_64⟩ := w64
          obtain ⟨i64_0, i64_1, i64_2, i64_3, i64_4, i64_5, i64_6, i64_7, i64_8, hF, hT, hS, hl⟩ := hI
          have i64_0 : 0 ≤ x64_at.toInt := i64_0
          have i64_1 : x64_at.toInt ≤ 1600 := i64_1
          have i64_2 : (a0.toInt ≤ x64_at.toInt) := i64_2
          have i64_3 : (x64_at.toInt ≤ tp.toInt) := i64_3
          have i64_4 : (a0.toInt < x64_at.toInt ∨ (x64_at.toInt < tp.toInt ∧ 97 ≤ (G.1 ta x64_at.toNatClampNeg).toInt ∧ (G.1 ta x64_at.toNatClampNeg).toInt ≤ 122)) := i64_4
          have i64_5 : tp = G_64.1 a 6 := i64_5
          have i64_6 : bd0 = G_64.1 a 12 := i64_6
          have i64_7 : (1 : Int32) = G_64.1 a 8 := i64_7
          have i64_8 : x64_at = G_64.1 a 7 := i64_8
          have hF : Fr τ [11] G G_64 := hF
          have hT : TY D cy base τ G_64 H := hT
          have hS : va_S (RA base) s.heap H locs := hS
          have hl : lv_has ls 2 [(1, .int x64_1), (0, .ref a)] := hl
          refine lv_aload_n hx hb dX10_next_102 rfl (lv_at hl 1 rfl) ?_
          refine lv_aload_n hx hb dX10_next_103 rfl (lv_at hl 1 rfl) ?_
          refine t_geti cf_11 hx hb hts hown hK hT h_a (k := 7) rfl fl_X10_135 (fun _ h9 => h9) dX10_next_104 (fun z_65 ez_65 rz_65 => ?_)
          have w_66 : x64_at = z_65 := i64_8.trans ez_65.symm
          subst w_66
          refine lv_bipush (v := 97) hx hb dX10_next_107 (by decide) ?_
          refine lv_bipush (v := 122) hx hb dX10_next_109 (by decide) ?_
          obtain ⟨z_67, ez_67⟩ : ∃ y : Int32, y = G_64.1 ta x64_at.toNatClampNeg := ⟨_, rfl⟩
          have ez_67 : z_67 = G.1 ta x64_at.toNatClampNeg := ez_67.trans (hF.i h_ta (by decide) rfl _)
          refine pu_calli (runV (As := [.int x64_at, .int 97, .int 122]) (rest := []) ⟨hx, hb, hml, hown, hts⟩ (t_X10_isByte l D cy base τ G_64 a h_a x64_at ⟨by omega, by omega⟩ 97 122 ta h_ta ((hF.r h_a (by decide) rfl _).trans e_ta) tp i64_5 ⟨by omega, by omega⟩ z_67 (ez_67.trans (hF.i h_ta (by decide) rfl _).symm)) sV_X10_138 hK (t_recv cf_11 hK hT h_a) ⟨Nat.le_trans hZ hS.1, hT⟩ ⟨Nat.le_of_ble_eq_true rfl, Nat.le_of_ble_eq_true rfl⟩ rfl hl.1 rfl (Nat.le_of_ble_eq_true rfl) dX10_next_111 ⟨Nat.le_of_ble_eq_true rfl, Nat.le_of_ble_eq_true rfl⟩) (fun r_68 hr_68 => ?_)
          have hr_68_c := hr_68
          rcases hr_68_c with hr_68_0 | hr_68_1
          · skip
            obtain ⟨er_68, hr_68_0_f0, hr_68_0_f1, hr_68_0_f2⟩ := hr_68_0
            have hr_68_0_f0 : x64_at.toInt < tp.toInt := hr_68_0_f0
            have hr_68_0_f1 : 97 ≤ z_67.toInt := hr_68_0_f1
            have hr_68_0_f2 : z_67.toInt ≤ 122 := hr_68_0_f2
            subst er_68
            refine W.eq (g2 := F0 m 114 ls [.int 1]) rfl ?_
            rw [← ez_67] at i64_4
            refine lv_if_eq (tgt := 185) hx hb dX10_next_114 (by decide) (fun c_69 => absurd c_69 (by decide)) (fun _ => ?_)
            refine lv_aload_n hx hb dX10_next_117 rfl (lv_at hl 1 rfl) ?_
            refine lv_iload_n hx hb dX10_next_118 rfl (lv_at hl 0 rfl) ?_
            refine lv_bipush (v := 11) hx hb dX10_next_119 (by decide) ?_
            refine lv_icmp_le (tgt := 130) hx hb dX10_next_121 (by decide) (fun c_70 => ?_) (fun c_70 => ?_)
            · skip
              have tc_70 : x64_1.toInt ≤ 11 := (fa_le _ _).mp c_70
              refine lv_ldc2 (v := 27) hx hb hown (hts _ kl_X10_157) dX10_next_130 ?_
              refine lv_aload_n hx hb dX10_next_133 rfl (lv_at hl 1 rfl) ?_
              refine t_getl cf_11 hx hb hts hown hK hT h_a (k := 11) rfl fl_X10_148 (fun _ h9 => h9) dX10_next_134 (fun z_71 ez_71 => ?_)
              refine lv_lmul hx hb dX10_next_137 ?_
              refine lv_topl (fun z_72 ez_72 => ?_)
              refine lv_aload_n hx hb dX10_next_138 rfl (lv_at hl 1 rfl) ?_
              refine t_getr cf_11 hx hb hts hown hK hT h_a (k := 5) (P := fun q => τ q = 55) rfl (fun _ h9 => h9) fl_X10_23 (fun _ h9 => h9) dX10_next_139 (fun q_73 eq_73 hq_73 => ?_)
              have w_74 : ta = q_73 := Option.some.inj (e_ta.symm.trans ((hF.r h_a (by decide) rfl _).symm.trans eq_73))
              subst w_74
              refine lv_aload_n hx hb dX10_next_142 rfl (lv_at hl 1 rfl) ?_
              refine t_geti cf_11 hx hb hts hown hK hT h_a (k := 7) rfl fl_X10_135 (fun _ h9 => h9) dX10_next_143 (fun z_75 ez_75 rz_75 => ?_)
              have w_76 : x64_at = z_75 := i64_8.trans ez_75.symm
              subst w_76
              refine t_bald (n := 1600) (i := x64_at) rfl (by decide) hx hb hK hT h_ta (hT.len h_ta (by decide)) ⟨by omega, by omega⟩ dX10_next_146 (fun z_77 ez_77 rz_77 => ?_)
              have w_78 : z_67 = z_77 := ez_67.trans (ez_77.trans (hF.i h_ta (by decide) rfl _)).symm
              subst w_78
              refine lv_i2l hx hb dX10_next_147 rfl ?_
              refine lv_topl (fun z_79 ez_79 => ?_)
              have tz_79 : z_79.toInt = z_67.toInt := by rw [ez_79]; exact wide_t z_67
              refine lv_ladd hx hb dX10_next_148 ?_
              refine lv_topl (fun z_80 ez_80 => ?_)
              refine lv_ldc2 (v := 96) hx hb hown (hts _ kl_X10_159) dX10_next_149 ?_
              refine lv_lsub hx hb dX10_next_152 ?_
              refine lv_topl (fun z_81 ez_81 => ?_)
              refine t_putl (x := z_81) cf_11 hx hb hts hown hK hT hS h_a (k := 11) rfl fl_X10_148 (fun _ h9 => h9) rfl rfl rfl dX10_next_153 (fun H locs G_82 eG_82 hT hS => ?_)
              have hF := hF.wL eG_82 h_a rfl
              have k_83 : tp = G_82.1 a 6 := by rw [eG_82]; exact i64_5
              have k_84 : bd0 = G_82.1 a 12 := by rw [eG_82]; exact i64_6
              have k_85 : (1 : Int32) = G_82.1 a 8 := by rw [eG_82]; exact i64_7
              have k_86 : x64_at = G_82.1 a 7 := by rw [eG_82]; exact i64_8
              refine lv_iload_n hx hb dX10_next_156 rfl (lv_at hl 0 rfl) ?_
              refine lv_bipush (v := 11) hx hb dX10_next_157 (by decide) ?_
              refine lv_icmp_le (tgt := 169) hx hb dX10_next_159 (by decide) (fun c_87 => ?_) (fun c_87 => ?_)
              · skip
                have tc_87 : x64_1.toInt ≤ 11 := (fa_le _ _).mp c_87
                refine lv_aload_n hx hb dX10_next_169 rfl (lv_at hl 1 rfl) ?_
                refine lv_dup hx hb dX10_next_170 rfl ?_
                refine t_geti cf_11 hx hb hts hown hK hT h_a (k := 7) rfl fl_X10_135 (fun _ h9 => h9) dX10_next_171 (fun z_88 ez_88 rz_88 => ?_)
                have w_89 : x64_at = z_88 := k_86.trans ez_88.symm
                subst w_89
                refine lv_iconst (v := 1) hx hb dX10_next_174 (by decide) ?_
                refine lv_iadd hx hb dX10_next_175 ?_
                refine lv_topi (fun z_90 ez_90 => ?_)
                have tz_90 : z_90.toInt = x64_at.toInt + 1 := add_t ez_90 (show -2147483648 ≤ x64_at.toInt + 1 by omega) (show x64_at.toInt + 1 < 2147483648 by omega)
                refine t_puti (x := z_90) cf_11 hx hb hts hown hK hT hS h_a (k := 7) rfl (show 0 ≤ z_90.toInt ∧ z_90.toInt ≤ 1600 from ⟨by omega, by omega⟩) fl_X10_135 (fun _ h9 => h9) rfl rfl rfl dX10_next_176 (fun H locs G_91 eG_91 hT hS => ?_)
                have hF := hF.wI eG_91 h_a rfl
                have k_92 : tp = G_91.1 a 6 := by rw [eG_91, wI_ne (Or.inr (by decide))]; exact k_83
                have k_93 : bd0 = G_91.1 a 12 := by rw [eG_91, wI_ne (Or.inr (by decide))]; exact k_84
                have k_94 : (1 : Int32) = G_91.1 a 8 := by rw [eG_91, wI_ne (Or.inr (by decide))]; exact k_85
                have k_96 : z_90 = G_91.1 a 7 := by rw [eG_91, wI_at]
                obtain ⟨z_97, ez_97⟩ : ∃ y : Int32, y = x64_1 + 1 := ⟨_, rfl⟩
                refine lv_iinc (v := z_97) (lv' := [(1, .int z_97), (0, .ref a)]) hx hb dX10_next_179 hl (k := 0) rfl (by rw [ez_97]; rfl) (by decide) rfl (fun ls hl => ?_)
                refine lv_goto (tgt := 102) hx hb dX10_next_182 (by decide) ?_
                exact ih64 (z_97, z_90, G_91) _ _ _ (by show (tp.toInt - z_90.toInt).toNat < (tp.toInt - x64_at.toInt).toNat; omega) ⟨(by show 0 ≤ z_90.toInt; omega), (by show z_90.toInt ≤ 1600; omega), by show a0.toInt ≤ z_90.toInt; first | omega | assumption, by show z_90.toInt ≤ tp.toInt; first | omega | assumption, by show a0.toInt < z_90.toInt ∨ (z_90.toInt < tp.toInt ∧ 97 ≤ (G.1 ta z_90.toNatClampNeg).toInt ∧ (G.1 ta z_90.toNatClampNeg).toInt ≤ 122); omega, (show tp = G_91.1 a 6 from by first | exact k_92 | omega), (show bd0 = G_91.1 a 12 from by first | exact k_93 | omega), (show (1 : Int32) = G_91.1 a 8 from by first | exact k_94 | omega), k_96, hF, hT, hS, lv_sub hl [0, 1] rfl⟩
              · skip
                have tc_87 : ¬ x64_1.toInt ≤ 11 := fun h => c_87 ((fa_le _ _).mpr h)
                exfalso; omega
            · skip
              have tc_70 : ¬ x64_1.toInt ≤ 11 := fun h => c_70 ((fa_le _ _).mpr h)
              have mc_70 : x64_1.toInt ≤ 2147483647 := max_t x64_1
              refine lv_ldc2 (v := (-1)) hx hb hown (hts _ kl_X10_155) dX10_next_124 ?_
              refine lv_goto (tgt := 153) hx hb dX10_next_127 (by decide) ?_
              refine t_putl (x := (-1)) cf_11 hx hb hts hown hK hT hS h_a (k := 11) rfl fl_X10_148 (fun _ h9 => h9) rfl rfl rfl dX10_next_153 (fun H locs G_98 eG_98 hT hS => ?_)
              have hF := hF.wL eG_98 h_a rfl
              have k_99 : tp = G_98.1 a 6 := by rw [eG_98]; exact i64_5
              have k_100 : bd0 = G_98.1 a 12 := by rw [eG_98]; exact i64_6
              have k_101 : (1 : Int32) = G_98.1 a 8 := by rw [eG_98]; exact i64_7
              have k_102 : x64_at = G_98.1 a 7 := by rw [eG_98]; exact i64_8
              refine lv_iload_n hx hb dX10_next_156 rfl (lv_at hl 0 rfl) ?_
              refine lv_bipush (v := 11) hx hb dX10_next_157 (by decide) ?_
              refine lv_icmp_le (tgt := 169) hx hb dX10_next_159 (by decide) (fun c_103 => ?_) (fun c_103 => ?_)
              · skip
                have tc_103 : x64_1.toInt ≤ 11 := (fa_le _ _).mp c_103
                exfalso; omega
              · skip
                have tc_103 : ¬ x64_1.toInt ≤ 11 := fun h => c_103 ((fa_le _ _).mpr h)
                refine lv_aload_n hx hb dX10_next_162 rfl (lv_at hl 1 rfl) ?_
                refine lv_ldc2 (v := (-1)) hx hb hown (hts _ kl_X10_155) dX10_next_163 ?_
                refine t_putl (x := (-1)) cf_11 hx hb hts hown hK hT hS h_a (k := 11) rfl fl_X10_148 (fun _ h9 => h9) rfl rfl rfl dX10_next_166 (fun H locs G_104 eG_104 hT hS => ?_)
                have hF := hF.wL eG_104 h_a rfl
                have k_105 : tp = G_104.1 a 6 := by rw [eG_104]; exact k_99
                have k_106 : bd0 = G_104.1 a 12 := by rw [eG_104]; exact k_100
                have k_107 : (1 : Int32) = G_104.1 a 8 := by rw [eG_104]; exact k_101
                have k_108 : x64_at = G_104.1 a 7 := by rw [eG_104]; exact k_102
                refine lv_aload_n hx hb dX10_next_169 rfl (lv_at hl 1 rfl) ?_
                refine lv_dup hx hb dX10_next_170 rfl ?_
                refine t_geti cf_11 hx hb hts hown hK hT h_a (k := 7) rfl fl_X10_135 (fun _ h9 => h9) dX10_next_171 (fun z_109 ez_109 rz_109 => ?_)
                have w_110 : x64_at = z_109 := k_108.trans ez_109.symm
                subst w_110
                refine lv_iconst (v := 1) hx hb dX10_next_174 (by decide) ?_
                refine lv_iadd hx hb dX10_next_175 ?_
                refine lv_topi (fun z_111 ez_111 => ?_)
                have tz_111 : z_111.toInt = x64_at.toInt + 1 := add_t ez_111 (show -2147483648 ≤ x64_at.toInt + 1 by omega) (show x64_at.toInt + 1 < 2147483648 by omega)
                refine t_puti (x := z_111) cf_11 hx hb hts hown hK hT hS h_a (k := 7) rfl (show 0 ≤ z_111.toInt ∧ z_111.toInt ≤ 1600 from ⟨by omega, by omega⟩) fl_X10_135 (fun _ h9 => h9) rfl rfl rfl dX10_next_176 (fun H locs G_112 eG_112 hT hS => ?_)
                have hF := hF.wI eG_112 h_a rfl
                have k_113 : tp = G_112.1 a 6 := by rw [eG_112, wI_ne (Or.inr (by decide))]; exact k_105
                have k_114 : bd0 = G_112.1 a 12 := by rw [eG_112, wI_ne (Or.inr (by decide))]; exact k_106
                have k_115 : (1 : Int32) = G_112.1 a 8 := by rw [eG_112, wI_ne (Or.inr (by decide))]; exact k_107
                have k_117 : z_111 = G_112.1 a 7 := by rw [eG_112, wI_at]
                obtain ⟨z_118, ez_118⟩ : ∃ y : Int32, y = x64_1 + 1 := ⟨_, rfl⟩
                refine lv_iinc (v := z_118) (lv' := [(1, .int z_118), (0, .ref a)]) hx hb dX10_next_179 hl (k := 0) rfl (by rw [ez_118]; rfl) (by decide) rfl (fun ls hl => ?_)
                refine lv_goto (tgt := 102) hx hb dX10_next_182 (by decide) ?_
                exact ih64 (z_118, z_111, G_112) _ _ _ (by show (tp.toInt - z_111.toInt).toNat < (tp.toInt - x64_at.toInt).toNat; omega) ⟨(by show 0 ≤ z_111.toInt; omega), (by show z_111.toInt ≤ 1600; omega), by show a0.toInt ≤ z_111.toInt; first | omega | assumption, by show z_111.toInt ≤ tp.toInt; first | omega | assumption, by show a0.toInt < z_111.toInt ∨ (z_111.toInt < tp.toInt ∧ 97 ≤ (G.1 ta z_111.toNatClampNeg).toInt ∧ (G.1 ta z_111.toNatClampNeg).toInt ≤ 122); omega, (show tp = G_112.1 a 6 from by first | exact k_113 | omega), (show bd0 = G_112.1 a 12 from by first | exact k_114 | omega), (show (1 : Int32) = G_112.1 a 8 from by first | exact k_115 | omega), k_117, hF, hT, hS, lv_sub hl [0, 1] rfl⟩
          · skip
            obtain ⟨er_68, hr_68_1_f0⟩ := hr_68_1
            have hr_68_1_f0 : (tp.toInt ≤ x64_at.toInt ∨ z_67.toInt < 97 ∨ 122 < z_67.toInt) := hr_68_1_f0
            subst er_68
            refine W.eq (g2 := F0 m 114 ls [.int 0]) rfl ?_
            rw [← ez_67] at i64_4
            refine lv_if_eq (tgt := 185) hx hb dX10_next_114 (by decide) (fun _ => ?_) (fun c_119 => absurd (by decide) c_119)
            refine lv_goto (tgt := 307) hx hb dX10_next_185 (by decide) ?_
            exact ret_v hx hb hr hlocks ⟨⟨hS.1, hS.2.1⟩, G_64, hF, ⟨rfl, ⟨(by first | (show a0.toInt ≤ (G_64.1 a 7).toInt; rw [← i64_8]; done) | (show a0.toInt ≤ (G_64.1 a 7).toInt; rw [← i64_8]; show a0.toInt ≤ x64_at.toInt; first | omega | assumption)), (by first | (show (G_64.1 a 7).toInt ≤ tp.toInt; rw [← i64_8]; done) | (show (G_64.1 a 7).toInt ≤ tp.toInt; rw [← i64_8]; show x64_at.toInt ≤ tp.toInt; first | omega | assumption)), (by first | (show (G_64.1 a 8).toInt = 0 ∨ a0.toInt < (G_64.1 a 7).toInt; rw [← i64_8, ← i64_7]; done) | (show (G_64.1 a 8).toInt = 0 ∨ a0.toInt < (G_64.1 a 7).toInt; rw [← i64_8, ← i64_7]; show (1 : Int32).toInt = 0 ∨ a0.toInt < x64_at.toInt; first | omega | assumption)), (i64_5.symm.trans e_tp), (i64_6.symm.trans e_bd0)⟩⟩, hT⟩ hS.2.2 (Nat.le_of_ble_eq_true rfl) (Nat.le_of_ble_eq_true rfl) dX10_next_307
        · skip
          obtain ⟨er_55, hr_55_1_f0⟩ := hr_55_1
          have hr_55_1_f0 : (tp.toInt ≤ x1_at.toInt ∨ z_4.toInt < 97 ∨ 122 < z_4.toInt) := hr_55_1_f0
          subst er_55
          refine W.eq (g2 := F0 m 92 ls [.int 0]) rfl ?_
          refine lv_if_eq (tgt := 188) hx hb dX10_next_92 (by decide) (fun _ => ?_) (fun c_120 => absurd (by decide) c_120)
          refine lv_aload_n hx hb dX10_next_188 rfl (lv_at hl 0 rfl) ?_
          refine lv_aload_n hx hb dX10_next_189 rfl (lv_at hl 0 rfl) ?_
          refine t_geti cf_11 hx hb hts hown hK hT h_a (k := 7) rfl fl_X10_135 (fun _ h9 => h9) dX10_next_190 (fun z_121 ez_121 rz_121 => ?_)
          have w_122 : x1_at = z_121 := k_45.trans ez_121.symm
          subst w_122
          refine lv_bipush (v := 48) hx hb dX10_next_193 (by decide) ?_
          refine lv_bipush (v := 57) hx hb dX10_next_195 (by decide) ?_
          refine pu_calli (runV (As := [.int x1_at, .int 48, .int 57]) (rest := []) ⟨hx, hb, hml, hown, hts⟩ (t_X10_isByte l D cy base τ G_42 a h_a x1_at ⟨by omega, by omega⟩ 48 57 ta h_ta ((hF.r h_a (by decide) rfl _).trans e_ta) tp k_43 ⟨by omega, by omega⟩ z_4 (ez_4.trans (hF.i h_ta (by decide) rfl _).symm)) sV_X10_138 hK (t_recv cf_11 hK hT h_a) ⟨Nat.le_trans hZ hS.1, hT⟩ ⟨Nat.le_of_ble_eq_true rfl, Nat.le_of_ble_eq_true rfl⟩ rfl hl.1 rfl (Nat.le_of_ble_eq_true rfl) dX10_next_197 ⟨Nat.le_of_ble_eq_true rfl, Nat.le_of_ble_eq_true rfl⟩) (fun r_123 hr_123 => ?_)
          have hr_123_c := hr_123
          rcases hr_123_c with hr_123_0 | hr_123_1
          · skip
            obtain ⟨er_123, hr_123_0_f0, hr_123_0_f1, hr_123_0_f2⟩ := hr_123_0
            have hr_123_0_f0 : x1_at.toInt < tp.toInt := hr_123_0_f0
            have hr_123_0_f1 : 48 ≤ z_4.toInt := hr_123_0_f1
            have hr_123_0_f2 : z_4.toInt ≤ 57 := hr_123_0_f2
            subst er_123
            refine W.eq (g2 := F0 m 200 ls [.int 1]) rfl ?_
            refine lv_if_eq (tgt := 274) hx hb dX10_next_200 (by decide) (fun c_124 => absurd c_124 (by decide)) (fun _ => ?_)
            refine lv_aload_n hx hb dX10_next_203 rfl (lv_at hl 0 rfl) ?_
            refine lv_iconst (v := 2) hx hb dX10_next_204 (by decide) ?_
            refine t_puti (x := 2) cf_11 hx hb hts hown hK hT hS h_a (k := 8) rfl trivial fl_X10_152 (fun _ h9 => h9) rfl rfl rfl dX10_next_205 (fun H locs G_125 eG_125 hT hS => ?_)
            have hF := hF.wI eG_125 h_a rfl
            have k_126 : tp = G_125.1 a 6 := by rw [eG_125, wI_ne (Or.inr (by decide))]; exact k_43
            have k_127 : bd0 = G_125.1 a 12 := by rw [eG_125, wI_ne (Or.inr (by decide))]; exact k_44
            have k_128 : x1_at = G_125.1 a 7 := by rw [eG_125, wI_ne (Or.inr (by decide))]; exact k_45
            have k_129 : x1_at = G_125.1 a 9 := by rw [eG_125, wI_ne (Or.inr (by decide))]; exact k_46
            have k_130 : 0 = G_125.1 a 10 := by rw [eG_125, wI_ne (Or.inr (by decide))]; exact k_47
            have k_131 : (2 : Int32) = G_125.1 a 8 := by rw [eG_125, wI_at]
            refine W.loop (σ := Int32 × Gh) (fun w132 H locs ls => 0 ≤ w132.1.toInt ∧ w132.1.toInt ≤ 1600 ∧ (a0.toInt ≤ w132.1.toInt) ∧ (w132.1.toInt ≤ tp.toInt) ∧ (a0.toInt < w132.1.toInt ∨ (w132.1.toInt < tp.toInt ∧ 48 ≤ (G.1 ta w132.1.toNatClampNeg).toInt ∧ (G.1 ta w132.1.toNatClampNeg).toInt ≤ 57)) ∧ tp = w132.2.1 a 6 ∧ bd0 = w132.2.1 a 12 ∧ (2 : Int32) = w132.2.1 a 8 ∧ w132.1 = w132.2.1 a 7 ∧ Fr τ [11] G w132.2 ∧ TY D cy base τ w132.2 H ∧ va_S (RA base) s.heap H locs ∧ lv_has ls 2 [(0, .ref a)]) (fun w132 => (tp.toInt - w132.1.toInt).toNat) ?_ (x1_at, G_125) _ _ _ ⟨(by show 0 ≤ x1_at.toInt; omega), (by show x1_at.toInt ≤ 1600; omega), (by show a0.toInt ≤ x1_at.toInt; first | omega | assumption | exact rfl), (by show x1_at.toInt ≤ tp.toInt; first | omega | assumption | exact rfl), (by show a0.toInt < x1_at.toInt ∨ (x1_at.toInt < tp.toInt ∧ 48 ≤ (G.1 ta x1_at.toNatClampNeg).toInt ∧ (G.1 ta x1_at.toNatClampNeg).toInt ≤ 57); rw [← ez_4]; omega), (by show tp = G_125.1 a 6; exact k_126), (by show bd0 = G_125.1 a 12; exact k_127), (by show (2 : Int32) = G_125.1 a 8; exact k_131), k_128, hF, hT, hS, lv_sub hl [0] rfl⟩
            intro w132 H locs ls hI ih132
            obtain ⟨x132_at, G_132⟩ := w132
            obtain ⟨i132_0, i132_1, i132_2, i132_3, i132_4, i132_5, i132_6, i132_7, i132_8, hF, hT, hS, hl⟩ := hI
            have i132_0 : 0 ≤ x132_at.toInt := i132_0
            have i132_1 : x132_at.toInt ≤ 1600 := i132_1
            have i132_2 : (a0.toInt ≤ x132_at.toInt) := i132_2
            have i132_3 : (x132_at.toInt ≤ tp.toInt) := i132_3
            have i132_4 : (a0.toInt < x132_at.toInt ∨ (x132_at.toInt < tp.toInt ∧ 48 ≤ (G.1 ta x132_at.toNatClampNeg).toInt ∧ (G.1 ta x132_at.toNatClampNeg).toInt ≤ 57)) := i132_4
            have i132_5 : tp = G_132.1 a 6 := i132_5
            have i132_6 : bd0 = G_132.1 a 12 := i132_6
            have i132_7 : (2 : Int32) = G_132.1 a 8 := i132_7
            have i132_8 : x132_at = G_132.1 a 7 := i132_8
            have hF : Fr τ [11] G G_132 := hF
            have hT : TY D cy base τ G_132 H := hT
            have hS : va_S (RA base) s.heap H locs := hS
            have hl : lv_has ls 2 [(0, .ref a)] := hl
            refine lv_aload_n hx hb dX10_next_208 rfl (lv_at hl 0 rfl) ?_
            refine lv_aload_n hx hb dX10_next_209 rfl (lv_at hl 0 rfl) ?_
            refine t_geti cf_11 hx hb hts hown hK hT h_a (k := 7) rfl fl_X10_135 (fun _ h9 => h9) dX10_next_210 (fun z_133 ez_133 rz_133 => ?_)
            have w_134 : x132_at = z_133 := i132_8.trans ez_133.symm
            subst w_134
            refine lv_bipush (v := 48) hx hb dX10_next_213 (by decide) ?_
            refine lv_bipush (v := 57) hx hb dX10_next_215 (by decide) ?_
            obtain ⟨z_135, ez_135⟩ : ∃ y : Int32, y = G_132.1 ta x132_at.toNatClampNeg := ⟨_, rfl⟩
            have ez_135 : z_135 = G.1 ta x132_at.toNatClampNeg := ez_135.trans (hF.i h_ta (by decide) rfl _)
            refine pu_calli (runV (As := [.int x132_at, .int 48, .int 57]) (rest := []) ⟨hx, hb, hml, hown, hts⟩ (t_X10_isByte l D cy base τ G_132 a h_a x132_at ⟨by omega, by omega⟩ 48 57 ta h_ta ((hF.r h_a (by decide) rfl _).trans e_ta) tp i132_5 ⟨by omega, by omega⟩ z_135 (ez_135.trans (hF.i h_ta (by decide) rfl _).symm)) sV_X10_138 hK (t_recv cf_11 hK hT h_a) ⟨Nat.le_trans hZ hS.1, hT⟩ ⟨Nat.le_of_ble_eq_true rfl, Nat.le_of_ble_eq_true rfl⟩ rfl hl.1 rfl (Nat.le_of_ble_eq_true rfl) dX10_next_217 ⟨Nat.le_of_ble_eq_true rfl, Nat.le_of_ble_eq_true rfl⟩) (fun r_136 hr_136 => ?_)
            have hr_136_c := hr_136
            rcases hr_136_c with hr_136_0 | hr_136_1
            · skip
              obtain ⟨er_136, hr_136_0_f0, hr_136_0_f1, hr_136_0_f2⟩ := hr_136_0
              have hr_136_0_f0 : x132_at.toInt < tp.toInt := hr_136_0_f0
              have hr_136_0_f1 : 48 ≤ z_135.toInt := hr_136_0_f1
              have hr_136_0_f2 : z_135.toInt ≤ 57 := hr_136_0_f2
              subst er_136
              refine W.eq (g2 := F0 m 220 ls [.int 1]) rfl ?_
              rw [← ez_135] at i132_4
              refine lv_if_eq (tgt := 307) hx hb dX10_next_220 (by decide) (fun c_137 => absurd c_137 (by decide)) (fun _ => ?_)
              refine lv_aload_n hx hb dX10_next_223 rfl (lv_at hl 0 rfl) ?_
              refine lv_aload_n hx hb dX10_next_224 rfl (lv_at hl 0 rfl) ?_
              refine t_geti cf_11 hx hb hts hown hK hT h_a (k := 10) rfl fl_X10_145 (fun _ h9 => h9) dX10_next_225 (fun z_138 ez_138 rz_138 => ?_)
              have ez_138 : z_138 = G_132.1 a 10 := ez_138
              refine lv_ldc (v := 100000) hx hb hown (hts _ ki_X10_161) dX10_next_228 ?_
              refine lv_icmp_le (tgt := 238) hx hb dX10_next_230 (by decide) (fun c_139 => ?_) (fun c_139 => ?_)
              · skip
                have tc_139 : z_138.toInt ≤ 100000 := (fa_le _ _).mp c_139
                refine lv_bipush (v := 10) hx hb dX10_next_238 (by decide) ?_
                refine lv_aload_n hx hb dX10_next_240 rfl (lv_at hl 0 rfl) ?_
                refine t_geti cf_11 hx hb hts hown hK hT h_a (k := 10) rfl fl_X10_145 (fun _ h9 => h9) dX10_next_241 (fun z_140 ez_140 rz_140 => ?_)
                have w_141 : z_138 = z_140 := ez_138.trans ez_140.symm
                subst w_141
                refine lv_imul hx hb dX10_next_244 ?_
                refine lv_topi (fun z_142 ez_142 => ?_)
                refine lv_aload_n hx hb dX10_next_245 rfl (lv_at hl 0 rfl) ?_
                refine t_getr cf_11 hx hb hts hown hK hT h_a (k := 5) (P := fun q => τ q = 55) rfl (fun _ h9 => h9) fl_X10_23 (fun _ h9 => h9) dX10_next_246 (fun q_143 eq_143 hq_143 => ?_)
                have w_144 : ta = q_143 := Option.some.inj (e_ta.symm.trans ((hF.r h_a (by decide) rfl _).symm.trans eq_143))
                subst w_144
                refine lv_aload_n hx hb dX10_next_249 rfl (lv_at hl 0 rfl) ?_
                refine t_geti cf_11 hx hb hts hown hK hT h_a (k := 7) rfl fl_X10_135 (fun _ h9 => h9) dX10_next_250 (fun z_145 ez_145 rz_145 => ?_)
                have w_146 : x132_at = z_145 := i132_8.trans ez_145.symm
                subst w_146
                refine t_bald (n := 1600) (i := x132_at) rfl (by decide) hx hb hK hT h_ta (hT.len h_ta (by decide)) ⟨by omega, by omega⟩ dX10_next_253 (fun z_147 ez_147 rz_147 => ?_)
                have w_148 : z_135 = z_147 := ez_135.trans (ez_147.trans (hF.i h_ta (by decide) rfl _)).symm
                subst w_148
                refine lv_iadd hx hb dX10_next_254 ?_
                refine lv_topi (fun z_149 ez_149 => ?_)
                refine lv_bipush (v := 48) hx hb dX10_next_255 (by decide) ?_
                refine lv_isub hx hb dX10_next_257 ?_
                refine lv_topi (fun z_150 ez_150 => ?_)
                refine t_puti (x := z_150) cf_11 hx hb hts hown hK hT hS h_a (k := 10) rfl trivial fl_X10_145 (fun _ h9 => h9) rfl rfl rfl dX10_next_258 (fun H locs G_151 eG_151 hT hS => ?_)
                have hF := hF.wI eG_151 h_a rfl
                have k_152 : tp = G_151.1 a 6 := by rw [eG_151, wI_ne (Or.inr (by decide))]; exact i132_5
                have k_153 : bd0 = G_151.1 a 12 := by rw [eG_151, wI_ne (Or.inr (by decide))]; exact i132_6
                have k_154 : (2 : Int32) = G_151.1 a 8 := by rw [eG_151, wI_ne (Or.inr (by decide))]; exact i132_7
                have k_155 : x132_at = G_151.1 a 7 := by rw [eG_151, wI_ne (Or.inr (by decide))]; exact i132_8
                have k_157 : z_150 = G_151.1 a 10 := by rw [eG_151, wI_at]
                refine lv_aload_n hx hb dX10_next_261 rfl (lv_at hl 0 rfl) ?_
                refine lv_dup hx hb dX10_next_262 rfl ?_
                refine t_geti cf_11 hx hb hts hown hK hT h_a (k := 7) rfl fl_X10_135 (fun _ h9 => h9) dX10_next_263 (fun z_158 ez_158 rz_158 => ?_)
                have w_159 : x132_at = z_158 := k_155.trans ez_158.symm
                subst w_159
                refine lv_iconst (v := 1) hx hb dX10_next_266 (by decide) ?_
                refine lv_iadd hx hb dX10_next_267 ?_
                refine lv_topi (fun z_160 ez_160 => ?_)
                have tz_160 : z_160.toInt = x132_at.toInt + 1 := add_t ez_160 (show -2147483648 ≤ x132_at.toInt + 1 by omega) (show x132_at.toInt + 1 < 2147483648 by omega)
                refine t_puti (x := z_160) cf_11 hx hb hts hown hK hT hS h_a (k := 7) rfl (show 0 ≤ z_160.toInt ∧ z_160.toInt ≤ 1600 from ⟨by omega, by omega⟩) fl_X10_135 (fun _ h9 => h9) rfl rfl rfl dX10_next_268 (fun H locs G_161 eG_161 hT hS => ?_)
                have hF := hF.wI eG_161 h_a rfl
                have k_162 : tp = G_161.1 a 6 := by rw [eG_161, wI_ne (Or.inr (by decide))]; exact k_152
                have k_163 : bd0 = G_161.1 a 12 := by rw [eG_161, wI_ne (Or.inr (by decide))]; exact k_153
                have k_164 : (2 : Int32) = G_161.1 a 8 := by rw [eG_161, wI_ne (Or.inr (by decide))]; exact k_154
                have k_166 : z_150 = G_161.1 a 10 := by rw [eG_161, wI_ne (Or.inr (by decide))]; exact k_157
                have k_167 : z_160 = G_161.1 a 7 := by rw [eG_161, wI_at]
                refine lv_goto (tgt := 208) hx hb dX10_next_271 (by decide) ?_
                exact ih132 (z_160, G_161) _ _ _ (by show (tp.toInt - z_160.toInt).toNat < (tp.toInt - x132_at.toInt).toNat; omega) ⟨(by show 0 ≤ z_160.toInt; omega), (by show z_160.toInt ≤ 1600; omega), by show a0.toInt ≤ z_160.toInt; first | omega | assumption, by show z_160.toInt ≤ tp.toInt; first | omega | assumption, by show a0.toInt < z_160.toInt ∨ (z_160.toInt < tp.toInt ∧ 48 ≤ (G.1 ta z_160.toNatClampNeg).toInt ∧ (G.1 ta z_160.toNatClampNeg).toInt ≤ 57); omega, (show tp = G_161.1 a 6 from by first | exact k_162 | omega), (show bd0 = G_161.1 a 12 from by first | exact k_163 | omega), (show (2 : Int32) = G_161.1 a 8 from by first | exact k_164 | omega), k_167, hF, hT, hS, lv_sub hl [0] rfl⟩
              · skip
                have tc_139 : ¬ z_138.toInt ≤ 100000 := fun h => c_139 ((fa_le _ _).mpr h)
                have mc_139 : z_138.toInt ≤ 2147483647 := max_t z_138
                refine lv_ldc (v := 1000000) hx hb hown (hts _ ki_X10_162) dX10_next_233 ?_
                refine lv_goto (tgt := 258) hx hb dX10_next_235 (by decide) ?_
                refine t_puti (x := 1000000) cf_11 hx hb hts hown hK hT hS h_a (k := 10) rfl trivial fl_X10_145 (fun _ h9 => h9) rfl rfl rfl dX10_next_258 (fun H locs G_168 eG_168 hT hS => ?_)
                have hF := hF.wI eG_168 h_a rfl
                have k_169 : tp = G_168.1 a 6 := by rw [eG_168, wI_ne (Or.inr (by decide))]; exact i132_5
                have k_170 : bd0 = G_168.1 a 12 := by rw [eG_168, wI_ne (Or.inr (by decide))]; exact i132_6
                have k_171 : (2 : Int32) = G_168.1 a 8 := by rw [eG_168, wI_ne (Or.inr (by decide))]; exact i132_7
                have k_172 : x132_at = G_168.1 a 7 := by rw [eG_168, wI_ne (Or.inr (by decide))]; exact i132_8
                have k_174 : (1000000 : Int32) = G_168.1 a 10 := by rw [eG_168, wI_at]
                refine lv_aload_n hx hb dX10_next_261 rfl (lv_at hl 0 rfl) ?_
                refine lv_dup hx hb dX10_next_262 rfl ?_
                refine t_geti cf_11 hx hb hts hown hK hT h_a (k := 7) rfl fl_X10_135 (fun _ h9 => h9) dX10_next_263 (fun z_175 ez_175 rz_175 => ?_)
                have w_176 : x132_at = z_175 := k_172.trans ez_175.symm
                subst w_176
                refine lv_iconst (v := 1) hx hb dX10_next_266 (by decide) ?_
                refine lv_iadd hx hb dX10_next_267 ?_
                refine lv_topi (fun z_177 ez_177 => ?_)
                have tz_177 : z_177.toInt = x132_at.toInt + 1 := add_t ez_177 (show -2147483648 ≤ x132_at.toInt + 1 by omega) (show x132_at.toInt + 1 < 2147483648 by omega)
                refine t_puti (x := z_177) cf_11 hx hb hts hown hK hT hS h_a (k := 7) rfl (show 0 ≤ z_177.toInt ∧ z_177.toInt ≤ 1600 from ⟨by omega, by omega⟩) fl_X10_135 (fun _ h9 => h9) rfl rfl rfl dX10_next_268 (fun H locs G_178 eG_178 hT hS => ?_)
                have hF := hF.wI eG_178 h_a rfl
                have k_179 : tp = G_178.1 a 6 := by rw [eG_178, wI_ne (Or.inr (by decide))]; exact k_169
                have k_180 : bd0 = G_178.1 a 12 := by rw [eG_178, wI_ne (Or.inr (by decide))]; exact k_170
                have k_181 : (2 : Int32) = G_178.1 a 8 := by rw [eG_178, wI_ne (Or.inr (by decide))]; exact k_171
                have k_183 : 1000000 = G_178.1 a 10 := by rw [eG_178, wI_ne (Or.inr (by decide))]; exact k_174
                have k_184 : z_177 = G_178.1 a 7 := by rw [eG_178, wI_at]
                refine lv_goto (tgt := 208) hx hb dX10_next_271 (by decide) ?_
                exact ih132 (z_177, G_178) _ _ _ (by show (tp.toInt - z_177.toInt).toNat < (tp.toInt - x132_at.toInt).toNat; omega) ⟨(by show 0 ≤ z_177.toInt; omega), (by show z_177.toInt ≤ 1600; omega), by show a0.toInt ≤ z_177.toInt; first | omega | assumption, by show z_177.toInt ≤ tp.toInt; first | omega | assumption, by show a0.toInt < z_177.toInt ∨ (z_177.toInt < tp.toInt ∧ 48 ≤ (G.1 ta z_177.toNatClampNeg).toInt ∧ (G.1 ta z_177.toNatClampNeg).toInt ≤ 57); omega, (show tp = G_178.1 a 6 from by first | exact k_179 | omega), (show bd0 = G_178.1 a 12 from by first | exact k_180 | omega), (show (2 : Int32) = G_178.1 a 8 from by first | exact k_181 | omega), k_184, hF, hT, hS, lv_sub hl [0] rfl⟩
            · skip
              obtain ⟨er_136, hr_136_1_f0⟩ := hr_136_1
              have hr_136_1_f0 : (tp.toInt ≤ x132_at.toInt ∨ z_135.toInt < 48 ∨ 57 < z_135.toInt) := hr_136_1_f0
              subst er_136
              refine W.eq (g2 := F0 m 220 ls [.int 0]) rfl ?_
              rw [← ez_135] at i132_4
              refine lv_if_eq (tgt := 307) hx hb dX10_next_220 (by decide) (fun _ => ?_) (fun c_185 => absurd (by decide) c_185)
              exact ret_v hx hb hr hlocks ⟨⟨hS.1, hS.2.1⟩, G_132, hF, ⟨rfl, ⟨(by first | (show a0.toInt ≤ (G_132.1 a 7).toInt; rw [← i132_8]; done) | (show a0.toInt ≤ (G_132.1 a 7).toInt; rw [← i132_8]; show a0.toInt ≤ x132_at.toInt; first | omega | assumption)), (by first | (show (G_132.1 a 7).toInt ≤ tp.toInt; rw [← i132_8]; done) | (show (G_132.1 a 7).toInt ≤ tp.toInt; rw [← i132_8]; show x132_at.toInt ≤ tp.toInt; first | omega | assumption)), (by first | (show (G_132.1 a 8).toInt = 0 ∨ a0.toInt < (G_132.1 a 7).toInt; rw [← i132_8, ← i132_7]; done) | (show (G_132.1 a 8).toInt = 0 ∨ a0.toInt < (G_132.1 a 7).toInt; rw [← i132_8, ← i132_7]; show (2 : Int32).toInt = 0 ∨ a0.toInt < x132_at.toInt; first | omega | assumption)), (i132_5.symm.trans e_tp), (i132_6.symm.trans e_bd0)⟩⟩, hT⟩ hS.2.2 (Nat.le_of_ble_eq_true rfl) (Nat.le_of_ble_eq_true rfl) dX10_next_307
          · skip
            obtain ⟨er_123, hr_123_1_f0⟩ := hr_123_1
            have hr_123_1_f0 : (tp.toInt ≤ x1_at.toInt ∨ z_4.toInt < 48 ∨ 57 < z_4.toInt) := hr_123_1_f0
            subst er_123
            refine W.eq (g2 := F0 m 200 ls [.int 0]) rfl ?_
            refine lv_if_eq (tgt := 274) hx hb dX10_next_200 (by decide) (fun _ => ?_) (fun c_186 => absurd (by decide) c_186)
            refine lv_aload_n hx hb dX10_next_274 rfl (lv_at hl 0 rfl) ?_
            refine lv_aload_n hx hb dX10_next_275 rfl (lv_at hl 0 rfl) ?_
            refine t_getr cf_11 hx hb hts hown hK hT h_a (k := 5) (P := fun q => τ q = 55) rfl (fun _ h9 => h9) fl_X10_23 (fun _ h9 => h9) dX10_next_276 (fun q_187 eq_187 hq_187 => ?_)
            have w_188 : ta = q_187 := Option.some.inj (e_ta.symm.trans ((hF.r h_a (by decide) rfl _).symm.trans eq_187))
            subst w_188
            refine lv_aload_n hx hb dX10_next_279 rfl (lv_at hl 0 rfl) ?_
            refine t_geti cf_11 hx hb hts hown hK hT h_a (k := 7) rfl fl_X10_135 (fun _ h9 => h9) dX10_next_280 (fun z_189 ez_189 rz_189 => ?_)
            have w_190 : x1_at = z_189 := k_45.trans ez_189.symm
            subst w_190
            refine t_bald (n := 1600) (i := x1_at) rfl (by decide) hx hb hK hT h_ta (hT.len h_ta (by decide)) ⟨by omega, by omega⟩ dX10_next_283 (fun z_191 ez_191 rz_191 => ?_)
            have w_192 : z_4 = z_191 := ez_4.trans (ez_191.trans (hF.i h_ta (by decide) rfl _)).symm
            subst w_192
            refine lv_bipush (v := 59) hx hb dX10_next_284 (by decide) ?_
            refine lv_icmp_ne (tgt := 293) hx hb dX10_next_286 (by decide) (fun c_193 => ?_) (fun c_193 => ?_)
            · skip
              have tc_193 : ¬ z_4.toInt = 59 := fun h => c_193 ((fa_eq _ _).mpr h)
              refine lv_iconst (v := 4) hx hb dX10_next_293 (by decide) ?_
              refine t_puti (x := 4) cf_11 hx hb hts hown hK hT hS h_a (k := 8) rfl trivial fl_X10_152 (fun _ h9 => h9) rfl rfl rfl dX10_next_294 (fun H locs G_194 eG_194 hT hS => ?_)
              have hF := hF.wI eG_194 h_a rfl
              have k_195 : tp = G_194.1 a 6 := by rw [eG_194, wI_ne (Or.inr (by decide))]; exact k_43
              have k_196 : bd0 = G_194.1 a 12 := by rw [eG_194, wI_ne (Or.inr (by decide))]; exact k_44
              have k_197 : x1_at = G_194.1 a 7 := by rw [eG_194, wI_ne (Or.inr (by decide))]; exact k_45
              have k_198 : x1_at = G_194.1 a 9 := by rw [eG_194, wI_ne (Or.inr (by decide))]; exact k_46
              have k_199 : 0 = G_194.1 a 10 := by rw [eG_194, wI_ne (Or.inr (by decide))]; exact k_47
              have k_200 : (4 : Int32) = G_194.1 a 8 := by rw [eG_194, wI_at]
              refine lv_aload_n hx hb dX10_next_297 rfl (lv_at hl 0 rfl) ?_
              refine lv_dup hx hb dX10_next_298 rfl ?_
              refine t_geti cf_11 hx hb hts hown hK hT h_a (k := 7) rfl fl_X10_135 (fun _ h9 => h9) dX10_next_299 (fun z_201 ez_201 rz_201 => ?_)
              have w_202 : x1_at = z_201 := k_197.trans ez_201.symm
              subst w_202
              refine lv_iconst (v := 1) hx hb dX10_next_302 (by decide) ?_
              refine lv_iadd hx hb dX10_next_303 ?_
              refine lv_topi (fun z_203 ez_203 => ?_)
              have tz_203 : z_203.toInt = x1_at.toInt + 1 := add_t ez_203 (show -2147483648 ≤ x1_at.toInt + 1 by omega) (show x1_at.toInt + 1 < 2147483648 by omega)
              refine t_puti (x := z_203) cf_11 hx hb hts hown hK hT hS h_a (k := 7) rfl (show 0 ≤ z_203.toInt ∧ z_203.toInt ≤ 1600 from ⟨by omega, by omega⟩) fl_X10_135 (fun _ h9 => h9) rfl rfl rfl dX10_next_304 (fun H locs G_204 eG_204 hT hS => ?_)
              have hF := hF.wI eG_204 h_a rfl
              have k_205 : tp = G_204.1 a 6 := by rw [eG_204, wI_ne (Or.inr (by decide))]; exact k_195
              have k_206 : bd0 = G_204.1 a 12 := by rw [eG_204, wI_ne (Or.inr (by decide))]; exact k_196
              have k_208 : x1_at = G_204.1 a 9 := by rw [eG_204, wI_ne (Or.inr (by decide))]; exact k_198
              have k_209 : 0 = G_204.1 a 10 := by rw [eG_204, wI_ne (Or.inr (by decide))]; exact k_199
              have k_210 : 4 = G_204.1 a 8 := by rw [eG_204, wI_ne (Or.inr (by decide))]; exact k_200
              have k_211 : z_203 = G_204.1 a 7 := by rw [eG_204, wI_at]
              exact ret_v hx hb hr hlocks ⟨⟨hS.1, hS.2.1⟩, G_204, hF, ⟨rfl, ⟨(by first | (show a0.toInt ≤ (G_204.1 a 7).toInt; rw [← k_211]; done) | (show a0.toInt ≤ (G_204.1 a 7).toInt; rw [← k_211]; show a0.toInt ≤ z_203.toInt; first | omega | assumption)), (by first | (show (G_204.1 a 7).toInt ≤ tp.toInt; rw [← k_211]; done) | (show (G_204.1 a 7).toInt ≤ tp.toInt; rw [← k_211]; show z_203.toInt ≤ tp.toInt; first | omega | assumption)), (by first | (show (G_204.1 a 8).toInt = 0 ∨ a0.toInt < (G_204.1 a 7).toInt; rw [← k_211, ← k_210]; done) | (show (G_204.1 a 8).toInt = 0 ∨ a0.toInt < (G_204.1 a 7).toInt; rw [← k_211, ← k_210]; show (4 : Int) = 0 ∨ a0.toInt < z_203.toInt; first | omega | assumption)), (k_205.symm.trans e_tp), (k_206.symm.trans e_bd0)⟩⟩, hT⟩ hS.2.2 (Nat.le_of_ble_eq_true rfl) (Nat.le_of_ble_eq_true rfl) dX10_next_307
            · skip
              have tc_193 : z_4.toInt = 59 := (fa_eq _ _).mp c_193
              refine lv_iconst (v := 3) hx hb dX10_next_289 (by decide) ?_
              refine lv_goto (tgt := 294) hx hb dX10_next_290 (by decide) ?_
              refine t_puti (x := 3) cf_11 hx hb hts hown hK hT hS h_a (k := 8) rfl trivial fl_X10_152 (fun _ h9 => h9) rfl rfl rfl dX10_next_294 (fun H locs G_212 eG_212 hT hS => ?_)
              have hF := hF.wI eG_212 h_a rfl
              have k_213 : tp = G_212.1 a 6 := by rw [eG_212, wI_ne (Or.inr (by decide))]; exact k_43
              have k_214 : bd0 = G_212.1 a 12 := by rw [eG_212, wI_ne (Or.inr (by decide))]; exact k_44
              have k_215 : x1_at = G_212.1 a 7 := by rw [eG_212, wI_ne (Or.inr (by decide))]; exact k_45
              have k_216 : x1_at = G_212.1 a 9 := by rw [eG_212, wI_ne (Or.inr (by decide))]; exact k_46
              have k_217 : 0 = G_212.1 a 10 := by rw [eG_212, wI_ne (Or.inr (by decide))]; exact k_47
              have k_218 : (3 : Int32) = G_212.1 a 8 := by rw [eG_212, wI_at]
              refine lv_aload_n hx hb dX10_next_297 rfl (lv_at hl 0 rfl) ?_
              refine lv_dup hx hb dX10_next_298 rfl ?_
              refine t_geti cf_11 hx hb hts hown hK hT h_a (k := 7) rfl fl_X10_135 (fun _ h9 => h9) dX10_next_299 (fun z_219 ez_219 rz_219 => ?_)
              have w_220 : x1_at = z_219 := k_215.trans ez_219.symm
              subst w_220
              refine lv_iconst (v := 1) hx hb dX10_next_302 (by decide) ?_
              refine lv_iadd hx hb dX10_next_303 ?_
              refine lv_topi (fun z_221 ez_221 => ?_)
              have tz_221 : z_221.toInt = x1_at.toInt + 1 := add_t ez_221 (show -2147483648 ≤ x1_at.toInt + 1 by omega) (show x1_at.toInt + 1 < 2147483648 by omega)
              refine t_puti (x := z_221) cf_11 hx hb hts hown hK hT hS h_a (k := 7) rfl (show 0 ≤ z_221.toInt ∧ z_221.toInt ≤ 1600 from ⟨by omega, by omega⟩) fl_X10_135 (fun _ h9 => h9) rfl rfl rfl dX10_next_304 (fun H locs G_222 eG_222 hT hS => ?_)
              have hF := hF.wI eG_222 h_a rfl
              have k_223 : tp = G_222.1 a 6 := by rw [eG_222, wI_ne (Or.inr (by decide))]; exact k_213
              have k_224 : bd0 = G_222.1 a 12 := by rw [eG_222, wI_ne (Or.inr (by decide))]; exact k_214
              have k_226 : x1_at = G_222.1 a 9 := by rw [eG_222, wI_ne (Or.inr (by decide))]; exact k_216
              have k_227 : 0 = G_222.1 a 10 := by rw [eG_222, wI_ne (Or.inr (by decide))]; exact k_217
              have k_228 : 3 = G_222.1 a 8 := by rw [eG_222, wI_ne (Or.inr (by decide))]; exact k_218
              have k_229 : z_221 = G_222.1 a 7 := by rw [eG_222, wI_at]
              exact ret_v hx hb hr hlocks ⟨⟨hS.1, hS.2.1⟩, G_222, hF, ⟨rfl, ⟨(by first | (show a0.toInt ≤ (G_222.1 a 7).toInt; rw [← k_229]; done) | (show a0.toInt ≤ (G_222.1 a 7).toInt; rw [← k_229]; show a0.toInt ≤ z_221.toInt; first | omega | assumption)), (by first | (show (G_222.1 a 7).toInt ≤ tp.toInt; rw [← k_229]; done) | (show (G_222.1 a 7).toInt ≤ tp.toInt; rw [← k_229]; show z_221.toInt ≤ tp.toInt; first | omega | assumption)), (by first | (show (G_222.1 a 8).toInt = 0 ∨ a0.toInt < (G_222.1 a 7).toInt; rw [← k_229, ← k_228]; done) | (show (G_222.1 a 8).toInt = 0 ∨ a0.toInt < (G_222.1 a 7).toInt; rw [← k_229, ← k_228]; show (3 : Int) = 0 ∨ a0.toInt < z_221.toInt; first | omega | assumption)), (k_223.symm.trans e_tp), (k_224.symm.trans e_bd0)⟩⟩, hT⟩ hS.2.2 (Nat.le_of_ble_eq_true rfl) (Nat.le_of_ble_eq_true rfl) dX10_next_307
      · skip
        have tc_52 : x1_at.toInt = tp.toInt := (fa_eq _ _).mp c_52
        refine lv_aload_n hx hb dX10_next_72 rfl (lv_at hl 0 rfl) ?_
        refine lv_iconst (v := 0) hx hb dX10_next_73 (by decide) ?_
        refine t_puti (x := 0) cf_11 hx hb hts hown hK hT hS h_a (k := 8) rfl trivial fl_X10_152 (fun _ h9 => h9) rfl rfl rfl dX10_next_74 (fun H locs G_230 eG_230 hT hS => ?_)
        have hF := hF.wI eG_230 h_a rfl
        have k_231 : tp = G_230.1 a 6 := by rw [eG_230, wI_ne (Or.inr (by decide))]; exact k_43
        have k_232 : bd0 = G_230.1 a 12 := by rw [eG_230, wI_ne (Or.inr (by decide))]; exact k_44
        have k_233 : x1_at = G_230.1 a 7 := by rw [eG_230, wI_ne (Or.inr (by decide))]; exact k_45
        have k_234 : x1_at = G_230.1 a 9 := by rw [eG_230, wI_ne (Or.inr (by decide))]; exact k_46
        have k_235 : 0 = G_230.1 a 10 := by rw [eG_230, wI_ne (Or.inr (by decide))]; exact k_47
        have k_236 : (0 : Int32) = G_230.1 a 8 := by rw [eG_230, wI_at]
        refine lv_goto (tgt := 307) hx hb dX10_next_77 (by decide) ?_
        exact ret_v hx hb hr hlocks ⟨⟨hS.1, hS.2.1⟩, G_230, hF, ⟨rfl, ⟨(by first | (show a0.toInt ≤ (G_230.1 a 7).toInt; rw [← k_233]; done) | (show a0.toInt ≤ (G_230.1 a 7).toInt; rw [← k_233]; show a0.toInt ≤ x1_at.toInt; first | omega | assumption)), (by first | (show (G_230.1 a 7).toInt ≤ tp.toInt; rw [← k_233]; done) | (show (G_230.1 a 7).toInt ≤ tp.toInt; rw [← k_233]; show x1_at.toInt ≤ tp.toInt; first | omega | assumption)), (by first | (show (G_230.1 a 8).toInt = 0 ∨ a0.toInt < (G_230.1 a 7).toInt; rw [← k_233, ← k_236]; done) | (show (G_230.1 a 8).toInt = 0 ∨ a0.toInt < (G_230.1 a 7).toInt; rw [← k_233, ← k_236]; show (0 : Int) = 0 ∨ a0.toInt < x1_at.toInt; first | omega | assumption)), (k_231.symm.trans e_tp), (k_232.symm.trans e_bd0)⟩⟩, hT⟩ hS.2.2 (Nat.le_of_ble_eq_true rfl) (Nat.le_of_ble_eq_true rfl) dX10_next_307
set_option maxHeartbeats 4000000 in
set_option maxRecDepth 100000 in
theorem t_X10_fails (l : Launch) (D : va_G) (cy : Nat → ClassId) (base : Nat) (τ : Nat → Nat) (G : Gh) (a : Nat) (h_a : τ a = 11) (v : Int32) (r_v : 1 ≤ v.toInt ∧ v.toInt ≤ 3) (tp : Int32) (e_tp : tp = G.1 a 6) (r_tp : 0 ≤ tp.toInt ∧ tp.toInt ≤ 1600) (a0 : Int32) (e_a0 : a0 = G.1 a 7) (r_a0 : 0 ≤ a0.toInt ∧ a0.toInt ≤ 1600) (tk0 : Int32) (e_tk0 : tk0 = G.1 a 8) (bd0 : Int32) (e_bd0 : bd0 = G.1 a 12) : MM l yX10_fails cX10_fails 2 none 0 0 0 D cy [.ref a, .int v] (PT D cy base τ G) (QT D cy base τ G [11] (fun v g => v = none ∧ (((g.1 a 12).toInt ≠ 0) ∧ g.1 a 6 = G.1 a 6 ∧ g.1 a 7 = G.1 a 7 ∧ g.1 a 8 = G.1 a 8))) (RA base) := by
  refine MM.of (by decide) (Nat.le_of_ble_eq_true rfl) ?_
  intro p e s m below meth c C hPT ls hl
  obtain ⟨hx, hb, hr, hml, hown, hts, hlocks, hK, hnm⟩ := C
  obtain ⟨hZ, hT⟩ := hPT
  have hS : va_S (RA base) s.heap s.heap [] := va_S.rf
  have hF : Fr τ [11] G G := Fr.rf
  have hl : lv_has ls 2 [(0, .ref a), (1, .int v)] := hl
  refine lv_aload_n hx hb dX10_fails_0 rfl (lv_at hl 0 rfl) ?_
  refine t_geti cf_11 hx hb hts hown hK hT h_a (k := 12) rfl fl_X10_163 (fun _ h9 => h9) dX10_fails_1 (fun z_1 ez_1 rz_1 => ?_)
  have w_2 : bd0 = z_1 := e_bd0.trans ez_1.symm
  subst w_2
  refine lv_if_eq (tgt := 8) hx hb dX10_fails_4 (by decide) (fun c_3 => ?_) (fun c_3 => ?_)
  · skip
    have tc_3 : bd0.toInt = 0 := (fa_eq _ _).mp c_3
    refine lv_aload_n hx hb dX10_fails_8 rfl (lv_at hl 0 rfl) ?_
    refine lv_iload_n hx hb dX10_fails_9 rfl (lv_at hl 1 rfl) ?_
    refine t_puti (x := v) cf_11 hx hb hts hown hK hT hS h_a (k := 12) rfl trivial fl_X10_163 (fun _ h9 => h9) rfl rfl rfl dX10_fails_10 (fun H locs G_4 eG_4 hT hS => ?_)
    have hF := hF.wI eG_4 h_a rfl
    have k_5 : tp = G_4.1 a 6 := by rw [eG_4, wI_ne (Or.inr (by decide))]; exact e_tp
    have k_6 : a0 = G_4.1 a 7 := by rw [eG_4, wI_ne (Or.inr (by decide))]; exact e_a0
    have k_7 : tk0 = G_4.1 a 8 := by rw [eG_4, wI_ne (Or.inr (by decide))]; exact e_tk0
    have k_9 : v = G_4.1 a 12 := by rw [eG_4, wI_at]
    refine lv_aload_n hx hb dX10_fails_13 rfl (lv_at hl 0 rfl) ?_
    refine lv_aload_n hx hb dX10_fails_14 rfl (lv_at hl 0 rfl) ?_
    refine t_geti cf_11 hx hb hts hown hK hT h_a (k := 9) rfl fl_X10_142 (fun _ h9 => h9) dX10_fails_15 (fun z_10 ez_10 rz_10 => ?_)
    have ez_10 : z_10 = G_4.1 a 9 := ez_10
    refine t_puti (x := z_10) cf_11 hx hb hts hown hK hT hS h_a (k := 13) rfl trivial fl_X10_166 (fun _ h9 => h9) rfl rfl rfl dX10_fails_18 (fun H locs G_11 eG_11 hT hS => ?_)
    have hF := hF.wI eG_11 h_a rfl
    have k_12 : tp = G_11.1 a 6 := by rw [eG_11, wI_ne (Or.inr (by decide))]; exact k_5
    have k_13 : a0 = G_11.1 a 7 := by rw [eG_11, wI_ne (Or.inr (by decide))]; exact k_6
    have k_14 : tk0 = G_11.1 a 8 := by rw [eG_11, wI_ne (Or.inr (by decide))]; exact k_7
    have k_15 : v = G_11.1 a 12 := by rw [eG_11, wI_ne (Or.inr (by decide))]; exact k_9
    have k_16 : z_10 = G_11.1 a 9 := by rw [eG_11, wI_ne (Or.inr (by decide))]; exact ez_10
    exact ret_v hx hb hr hlocks ⟨⟨hS.1, hS.2.1⟩, G_11, hF, ⟨rfl, ⟨(by first | (show (G_11.1 a 12).toInt ≠ 0; rw [← k_15]; done) | (show (G_11.1 a 12).toInt ≠ 0; rw [← k_15]; show v.toInt ≠ 0; first | omega | assumption)), (k_12.symm.trans e_tp), (k_13.symm.trans e_a0), (k_14.symm.trans e_tk0)⟩⟩, hT⟩ hS.2.2 (Nat.le_of_ble_eq_true rfl) (Nat.le_of_ble_eq_true rfl) dX10_fails_21
  · skip
    have tc_3 : ¬ bd0.toInt = 0 := fun h => c_3 ((fa_eq _ _).mpr h)
    exact ret_v hx hb hr hlocks ⟨⟨hS.1, hS.2.1⟩, G, hF, ⟨rfl, ⟨(by first | (show (G.1 a 12).toInt ≠ 0; rw [← e_bd0]; done) | (show (G.1 a 12).toInt ≠ 0; rw [← e_bd0]; show bd0.toInt ≠ 0; first | omega | assumption)), rfl, rfl, rfl⟩⟩, hT⟩ hS.2.2 (Nat.le_of_ble_eq_true rfl) (Nat.le_of_ble_eq_true rfl) dX10_fails_7
set_option maxHeartbeats 4000000 in
set_option maxRecDepth 100000 in
theorem t_X10_is (l : Launch) (D : va_G) (cy : Nat → ClassId) (base : Nat) (τ : Nat → Nat) (G : Gh) (a : Nat) (h_a : τ a = 11) (x : Int64) (bd0 : Int32) (e_bd0 : bd0 = G.1 a 12) (tk0 : Int32) (e_tk0 : tk0 = G.1 a 8) : MM l yX10_is cX10_is 3 (some .boolean) 0 0 0 D cy [.ref a, .long x] (PT D cy base τ G) (PuI (fun r => ((r = 1 ∧ bd0.toInt = 0 ∧ tk0.toInt = 1) ∨ (r = 0)))) noF := by
  refine MM.of (by decide) (Nat.le_of_ble_eq_true rfl) ?_
  intro p e s m below meth c C hPT ls hl
  obtain ⟨hx, hb, hr, hml, hown, hts, hlocks, hK, hnm⟩ := C
  obtain ⟨hZ, hT⟩ := hPT
  have hS : va_S (RA base) s.heap s.heap [] := va_S.rf
  have hl : lv_has ls 3 [(0, .ref a), (1, .long x)] := hl
  refine lv_aload_n hx hb dX10_is_0 rfl (lv_at hl 0 rfl) ?_
  refine t_geti cf_11 hx hb hts hown hK hT h_a (k := 12) rfl fl_X10_163 (fun _ h9 => h9) dX10_is_1 (fun z_1 ez_1 rz_1 => ?_)
  have w_2 : bd0 = z_1 := e_bd0.trans ez_1.symm
  subst w_2
  refine lv_if_ne (tgt := 28) hx hb dX10_is_4 (by decide) (fun c_3 => ?_) (fun c_3 => ?_)
  · skip
    have tc_3 : ¬ bd0.toInt = 0 := fun h => c_3 ((fa_eq _ _).mpr h)
    refine lv_iconst (v := 0) hx hb dX10_is_28 (by decide) ?_
    exact ret_z (ty := .boolean) hx hb hr rfl hlocks ⟨rfl, _, rfl, (Or.inr rfl)⟩ (fun _ h => absurd h List.not_mem_nil) (Nat.le_refl _) (Nat.le_refl _) dX10_is_29
  · skip
    have tc_3 : bd0.toInt = 0 := (fa_eq _ _).mp c_3
    refine lv_aload_n hx hb dX10_is_7 rfl (lv_at hl 0 rfl) ?_
    refine t_geti cf_11 hx hb hts hown hK hT h_a (k := 8) rfl fl_X10_152 (fun _ h9 => h9) dX10_is_8 (fun z_4 ez_4 rz_4 => ?_)
    have w_5 : tk0 = z_4 := e_tk0.trans ez_4.symm
    subst w_5
    refine lv_iconst (v := 1) hx hb dX10_is_11 (by decide) ?_
    refine lv_icmp_ne (tgt := 28) hx hb dX10_is_12 (by decide) (fun c_6 => ?_) (fun c_6 => ?_)
    · skip
      have tc_6 : ¬ tk0.toInt = 1 := fun h => c_6 ((fa_eq _ _).mpr h)
      refine lv_iconst (v := 0) hx hb dX10_is_28 (by decide) ?_
      exact ret_z (ty := .boolean) hx hb hr rfl hlocks ⟨rfl, _, rfl, (Or.inr rfl)⟩ (fun _ h => absurd h List.not_mem_nil) (Nat.le_refl _) (Nat.le_refl _) dX10_is_29
    · skip
      have tc_6 : tk0.toInt = 1 := (fa_eq _ _).mp c_6
      refine lv_aload_n hx hb dX10_is_15 rfl (lv_at hl 0 rfl) ?_
      refine t_getl cf_11 hx hb hts hown hK hT h_a (k := 11) rfl fl_X10_148 (fun _ h9 => h9) dX10_is_16 (fun z_7 ez_7 => ?_)
      refine lv_lload_n hx hb dX10_is_19 rfl (lv_at hl 1 rfl) ?_
      refine W.lcmp hx hb dX10_is_20 ?_
      refine lv_topi (fun z_8 ez_8 => ?_)
      have tz_8 : (z_8.toInt < 0 ↔ z_7.toInt < x.toInt) ∧ (0 < z_8.toInt ↔ x.toInt < z_7.toInt) ∧ -1 ≤ z_8.toInt ∧ z_8.toInt ≤ 1 := cmp_t ez_8
      refine lv_if_ne (tgt := 28) hx hb dX10_is_21 (by decide) (fun c_9 => ?_) (fun c_9 => ?_)
      · skip
        have tc_9 : ¬ z_8.toInt = 0 := fun h => c_9 ((fa_eq _ _).mpr h)
        refine lv_iconst (v := 0) hx hb dX10_is_28 (by decide) ?_
        exact ret_z (ty := .boolean) hx hb hr rfl hlocks ⟨rfl, _, rfl, (Or.inr rfl)⟩ (fun _ h => absurd h List.not_mem_nil) (Nat.le_refl _) (Nat.le_refl _) dX10_is_29
      · skip
        have tc_9 : z_8.toInt = 0 := (fa_eq _ _).mp c_9
        refine lv_iconst (v := 1) hx hb dX10_is_24 (by decide) ?_
        refine lv_goto (tgt := 29) hx hb dX10_is_25 (by decide) ?_
        exact ret_z (ty := .boolean) hx hb hr rfl hlocks ⟨rfl, _, rfl, (Or.inl ⟨rfl, (by omega), (by omega)⟩)⟩ (fun _ h => absurd h List.not_mem_nil) (Nat.le_refl _) (Nat.le_refl _) dX10_is_29
set_option maxHeartbeats 4000000 in
set_option maxRecDepth 100000 in
theorem t_X10_takes (l : Launch) (D : va_G) (cy : Nat → ClassId) (base : Nat) (τ : Nat → Nat) (G : Gh) (a : Nat) (h_a : τ a = 11) (x : Int64) (tp : Int32) (e_tp : tp = G.1 a 6) (r_tp : 0 ≤ tp.toInt ∧ tp.toInt ≤ 1600) (a0 : Int32) (e_a0 : a0 = G.1 a 7) (r_a0 : 0 ≤ a0.toInt ∧ a0.toInt ≤ 1600) (hat : a0.toInt ≤ tp.toInt) : MM l yX10_takes cX10_takes 3 (some .boolean) 2 0 0 D cy [.ref a, .long x] (PT D cy base τ G) (QT D cy base τ G [11] (fun v g => ∃ r : Int32, v = some (.int r) ∧ (((r = 1) ∨ (r = 0)) ∧ (a0.toInt ≤ (g.1 a 7).toInt) ∧ ((g.1 a 7).toInt ≤ tp.toInt) ∧ g.1 a 6 = G.1 a 6))) (RA base) := by
  refine MM.of (by decide) (Nat.le_of_ble_eq_true rfl) ?_
  intro p e s m below meth c C hPT ls hl
  obtain ⟨hx, hb, hr, hml, hown, hts, hlocks, hK, hnm⟩ := C
  obtain ⟨hZ, hT⟩ := hPT
  have hS : va_S (RA base) s.heap s.heap [] := va_S.rf
  have hF : Fr τ [11] G G := Fr.rf
  have hl : lv_has ls 3 [(0, .ref a), (1, .long x)] := hl
  refine lv_aload_n hx hb dX10_takes_0 rfl (lv_at hl 0 rfl) ?_
  refine lv_lload_n hx hb dX10_takes_1 rfl (lv_at hl 1 rfl) ?_
  obtain ⟨z_1, ez_1⟩ : ∃ y : Int32, y = G.1 a 12 := ⟨_, rfl⟩
  obtain ⟨z_2, ez_2⟩ : ∃ y : Int32, y = G.1 a 8 := ⟨_, rfl⟩
  refine pu_calli (runV (As := [.long x]) (rest := []) ⟨hx, hb, hml, hown, hts⟩ (t_X10_is l D cy base τ G a h_a x z_1 ez_1 z_2 ez_2) sV_X10_169 hK (t_recv cf_11 hK hT h_a) ⟨Nat.le_trans hZ hS.1, hT⟩ ⟨Nat.le_of_ble_eq_true rfl, Nat.le_of_ble_eq_true rfl⟩ rfl hl.1 rfl (Nat.le_of_ble_eq_true rfl) dX10_takes_2 ⟨Nat.le_of_ble_eq_true rfl, Nat.le_of_ble_eq_true rfl⟩) (fun r_3 hr_3 => ?_)
  have hr_3_c := hr_3
  rcases hr_3_c with hr_3_0 | hr_3_1
  · skip
    obtain ⟨er_3, hr_3_0_f0, hr_3_0_f1⟩ := hr_3_0
    have hr_3_0_f0 : z_1.toInt = 0 := hr_3_0_f0
    have hr_3_0_f1 : z_2.toInt = 1 := hr_3_0_f1
    subst er_3
    refine W.eq (g2 := F0 m 5 ls [.int 1]) rfl ?_
    refine lv_if_ne (tgt := 10) hx hb dX10_takes_5 (by decide) (fun _ => ?_) (fun c_4 => absurd c_4 (by decide))
    refine lv_aload_n hx hb dX10_takes_10 rfl (lv_at hl 0 rfl) ?_
    obtain ⟨q_5, eq_5, hq_5⟩ := (show ∃ q, G.2.2.1 a 5 = some q ∧ τ q = 55 from hT.rgr h_a (by decide) 5)
    refine t_callv (runV (As := []) (rest := []) ⟨hx, hb, hml, hown, hts⟩ (t_X10_next l D cy base τ G a h_a q_5 hq_5 eq_5 tp e_tp ⟨by omega, by omega⟩ a0 e_a0 ⟨by omega, by omega⟩ z_1 ez_1 (by show a0.toInt ≤ tp.toInt; first | assumption | omega | decide)) sV_X10_173 hK (t_recv cf_11 hK hT h_a) ⟨Nat.le_trans hZ hS.1, hT⟩ ⟨Nat.le_of_ble_eq_true rfl, Nat.le_of_ble_eq_true rfl⟩ rfl hl.1 rfl (Nat.le_of_ble_eq_true rfl) dX10_takes_11 ⟨Nat.le_of_ble_eq_true rfl, Nat.le_of_ble_eq_true rfl⟩) hS (fun G_6 H locs hF_6 hr_6 hT hS => ?_)
    have hF := hF.tr hF_6 rfl
    obtain ⟨hr_6_p0, hr_6_p1, hr_6_p2, hr_6_s0, hr_6_s1⟩ := hr_6
    have k_11 : tp = G_6.1 a 6 := e_tp.trans hr_6_s0.symm
    have k_12 : z_1 = G_6.1 a 12 := ez_1.trans hr_6_s1.symm
    obtain ⟨z_13, z_14, ez_13, ez_14, hr_6_p0, hr_6_p1, hr_6_p2⟩ : ∃ z_13 z_14 : Int32, z_13 = G_6.1 a 7 ∧ z_14 = G_6.1 a 8 ∧ (a0.toInt ≤ z_13.toInt) ∧ (z_13.toInt ≤ tp.toInt) ∧ (z_14.toInt = 0 ∨ a0.toInt < z_13.toInt) := ⟨_, _, rfl, rfl, hr_6_p0, hr_6_p1, hr_6_p2⟩
    have rz_13 : 0 ≤ z_13.toInt ∧ z_13.toInt ≤ 1600 := by rw [ez_13]; exact hT.rgi h_a (by decide) 7
    refine lv_iconst (v := 1) hx hb dX10_takes_14 (by decide) ?_
    exact ret_z (ty := .boolean) hx hb hr rfl hlocks ⟨⟨hS.1, hS.2.1⟩, G_6, hF, ⟨_, rfl, ⟨(Or.inl rfl), (by first | (show a0.toInt ≤ (G_6.1 a 7).toInt; rw [← ez_13]; done) | (show a0.toInt ≤ (G_6.1 a 7).toInt; rw [← ez_13]; show a0.toInt ≤ z_13.toInt; first | omega | assumption)), (by first | (show (G_6.1 a 7).toInt ≤ tp.toInt; rw [← ez_13]; done) | (show (G_6.1 a 7).toInt ≤ tp.toInt; rw [← ez_13]; show z_13.toInt ≤ tp.toInt; first | omega | assumption)), (k_11.symm.trans e_tp)⟩⟩, hT⟩ hS.2.2 (Nat.le_of_ble_eq_true rfl) (Nat.le_of_ble_eq_true rfl) dX10_takes_15
  · skip
    have er_3 := hr_3_1
    subst er_3
    refine W.eq (g2 := F0 m 5 ls [.int 0]) rfl ?_
    refine lv_if_ne (tgt := 10) hx hb dX10_takes_5 (by decide) (fun c_15 => absurd rfl c_15) (fun _ => ?_)
    refine lv_iconst (v := 0) hx hb dX10_takes_8 (by decide) ?_
    exact ret_z (ty := .boolean) hx hb hr rfl hlocks ⟨⟨hS.1, hS.2.1⟩, G, hF, ⟨_, rfl, ⟨(Or.inr rfl), (by first | (show a0.toInt ≤ (G.1 a 7).toInt; rw [← e_a0]; done) | (show a0.toInt ≤ (G.1 a 7).toInt; rw [← e_a0]; show a0.toInt ≤ a0.toInt; first | omega | assumption)), (by first | (show (G.1 a 7).toInt ≤ tp.toInt; rw [← e_a0]; done) | (show (G.1 a 7).toInt ≤ tp.toInt; rw [← e_a0]; show a0.toInt ≤ tp.toInt; first | omega | assumption)), rfl⟩⟩, hT⟩ hS.2.2 (Nat.le_of_ble_eq_true rfl) (Nat.le_of_ble_eq_true rfl) dX10_takes_9
set_option maxHeartbeats 4000000 in
set_option maxRecDepth 100000 in
theorem t_X10_asks (l : Launch) (D : va_G) (cy : Nat → ClassId) (base : Nat) (τ : Nat → Nat) (G : Gh) (a : Nat) (h_a : τ a = 11) (x : Int64) (tp : Int32) (e_tp : tp = G.1 a 6) (r_tp : 0 ≤ tp.toInt ∧ tp.toInt ≤ 1600) (a0 : Int32) (e_a0 : a0 = G.1 a 7) (r_a0 : 0 ≤ a0.toInt ∧ a0.toInt ≤ 1600) (hat : a0.toInt ≤ tp.toInt) : MM l yX10_asks cX10_asks 3 none 3 0 0 D cy [.ref a, .long x] (PT D cy base τ G) (QT D cy base τ G [11] (fun v g => v = none ∧ ((a0.toInt ≤ (g.1 a 7).toInt) ∧ ((g.1 a 7).toInt ≤ tp.toInt) ∧ g.1 a 6 = G.1 a 6))) (RA base) := by
  refine MM.of (by decide) (Nat.le_of_ble_eq_true rfl) ?_
  intro p e s m below meth c C hPT ls hl
  obtain ⟨hx, hb, hr, hml, hown, hts, hlocks, hK, hnm⟩ := C
  obtain ⟨hZ, hT⟩ := hPT
  have hS : va_S (RA base) s.heap s.heap [] := va_S.rf
  have hF : Fr τ [11] G G := Fr.rf
  have hl : lv_has ls 3 [(0, .ref a), (1, .long x)] := hl
  refine lv_aload_n hx hb dX10_asks_0 rfl (lv_at hl 0 rfl) ?_
  refine lv_lload_n hx hb dX10_asks_1 rfl (lv_at hl 1 rfl) ?_
  refine t_calli (runV (As := [.long x]) (rest := []) ⟨hx, hb, hml, hown, hts⟩ (t_X10_takes l D cy base τ G a h_a x tp e_tp ⟨by omega, by omega⟩ a0 e_a0 ⟨by omega, by omega⟩ (by show a0.toInt ≤ tp.toInt; first | assumption | omega | decide)) sV_X10_176 hK (t_recv cf_11 hK hT h_a) ⟨Nat.le_trans hZ hS.1, hT⟩ ⟨Nat.le_of_ble_eq_true rfl, Nat.le_of_ble_eq_true rfl⟩ rfl hl.1 rfl (Nat.le_of_ble_eq_true rfl) dX10_asks_2 ⟨Nat.le_of_ble_eq_true rfl, Nat.le_of_ble_eq_true rfl⟩) hS (fun r_1 G_1 H locs hF_1 hr_1 hT hS => ?_)
  have hF := hF.tr hF_1 rfl
  obtain ⟨hr_1_c, hr_1_p0, hr_1_p1, hr_1_s0⟩ := hr_1
  have k_4 : tp = G_1.1 a 6 := e_tp.trans hr_1_s0.symm
  obtain ⟨z_5, ez_5, hr_1_p0, hr_1_p1⟩ : ∃ z_5 : Int32, z_5 = G_1.1 a 7 ∧ (a0.toInt ≤ z_5.toInt) ∧ (z_5.toInt ≤ tp.toInt) := ⟨_, rfl, hr_1_p0, hr_1_p1⟩
  have rz_5 : 0 ≤ z_5.toInt ∧ z_5.toInt ≤ 1600 := by rw [ez_5]; exact hT.rgi h_a (by decide) 7
  rcases hr_1_c with hr_1_0 | hr_1_1
  · skip
    have er_1 := hr_1_0
    subst er_1
    refine W.eq (g2 := F0 m 5 ls [.int 1]) rfl ?_
    refine lv_if_ne (tgt := 13) hx hb dX10_asks_5 (by decide) (fun _ => ?_) (fun c_6 => absurd c_6 (by decide))
    exact ret_v hx hb hr hlocks ⟨⟨hS.1, hS.2.1⟩, G_1, hF, ⟨rfl, ⟨(by first | (show a0.toInt ≤ (G_1.1 a 7).toInt; rw [← ez_5]; done) | (show a0.toInt ≤ (G_1.1 a 7).toInt; rw [← ez_5]; show a0.toInt ≤ z_5.toInt; first | omega | assumption)), (by first | (show (G_1.1 a 7).toInt ≤ tp.toInt; rw [← ez_5]; done) | (show (G_1.1 a 7).toInt ≤ tp.toInt; rw [← ez_5]; show z_5.toInt ≤ tp.toInt; first | omega | assumption)), (k_4.symm.trans e_tp)⟩⟩, hT⟩ hS.2.2 (Nat.le_of_ble_eq_true rfl) (Nat.le_of_ble_eq_true rfl) dX10_asks_13
  · skip
    have er_1 := hr_1_1
    subst er_1
    refine W.eq (g2 := F0 m 5 ls [.int 0]) rfl ?_
    refine lv_if_ne (tgt := 13) hx hb dX10_asks_5 (by decide) (fun c_7 => absurd rfl c_7) (fun _ => ?_)
    refine lv_aload_n hx hb dX10_asks_8 rfl (lv_at hl 0 rfl) ?_
    refine lv_iconst (v := 1) hx hb dX10_asks_9 (by decide) ?_
    obtain ⟨z_8, ez_8⟩ : ∃ y : Int32, y = G_1.1 a 8 := ⟨_, rfl⟩
    obtain ⟨z_9, ez_9⟩ : ∃ y : Int32, y = G_1.1 a 12 := ⟨_, rfl⟩
    refine t_callv (runV (As := [.int 1]) (rest := []) ⟨hx, hb, hml, hown, hts⟩ (t_X10_fails l D cy base τ G_1 a h_a 1 (by decide) tp k_4 ⟨by omega, by omega⟩ z_5 ez_5 ⟨by omega, by omega⟩ z_8 ez_8 z_9 ez_9) sV_X10_179 hK (t_recv cf_11 hK hT h_a) ⟨Nat.le_trans hZ hS.1, hT⟩ ⟨Nat.le_of_ble_eq_true rfl, Nat.le_of_ble_eq_true rfl⟩ rfl hl.1 rfl (Nat.le_of_ble_eq_true rfl) dX10_asks_10 ⟨Nat.le_of_ble_eq_true rfl, Nat.le_of_ble_eq_true rfl⟩) hS (fun G_10 H locs hF_10 hr_10 hT hS => ?_)
    have hF := hF.tr hF_10 rfl
    obtain ⟨hr_10_p0, hr_10_s0, hr_10_s1, hr_10_s2⟩ := hr_10
    have k_15 : tp = G_10.1 a 6 := k_4.trans hr_10_s0.symm
    have k_16 : z_5 = G_10.1 a 7 := ez_5.trans hr_10_s1.symm
    have k_17 : z_8 = G_10.1 a 8 := ez_8.trans hr_10_s2.symm
    obtain ⟨z_18, ez_18, hr_10_p0⟩ : ∃ z_18 : Int32, z_18 = G_10.1 a 12 ∧ (z_18.toInt ≠ 0) := ⟨_, rfl, hr_10_p0⟩
    exact ret_v hx hb hr hlocks ⟨⟨hS.1, hS.2.1⟩, G_10, hF, ⟨rfl, ⟨(by first | (show a0.toInt ≤ (G_10.1 a 7).toInt; rw [← k_16]; done) | (show a0.toInt ≤ (G_10.1 a 7).toInt; rw [← k_16]; show a0.toInt ≤ z_5.toInt; first | omega | assumption)), (by first | (show (G_10.1 a 7).toInt ≤ tp.toInt; rw [← k_16]; done) | (show (G_10.1 a 7).toInt ≤ tp.toInt; rw [← k_16]; show z_5.toInt ≤ tp.toInt; first | omega | assumption)), (k_15.symm.trans e_tp)⟩⟩, hT⟩ hS.2.2 (Nat.le_of_ble_eq_true rfl) (Nat.le_of_ble_eq_true rfl) dX10_asks_13
set_option maxHeartbeats 4000000 in
set_option maxRecDepth 100000 in
theorem t_X10_number (l : Launch) (D : va_G) (cy : Nat → ClassId) (base : Nat) (τ : Nat → Nat) (G : Gh) (a : Nat) (h_a : τ a = 11) (lo : Int32) (hi : Int32) (tp : Int32) (e_tp : tp = G.1 a 6) (r_tp : 0 ≤ tp.toInt ∧ tp.toInt ≤ 1600) (a0 : Int32) (e_a0 : a0 = G.1 a 7) (r_a0 : 0 ≤ a0.toInt ∧ a0.toInt ≤ 1600) (hat : a0.toInt ≤ tp.toInt) : MM l yX10_number cX10_number 4 (some .int) 2 0 0 D cy [.ref a, .int lo, .int hi] (PT D cy base τ G) (QT D cy base τ G [11] (fun v g => ∃ r : Int32, v = some (.int r) ∧ ((a0.toInt ≤ (g.1 a 7).toInt) ∧ ((g.1 a 7).toInt ≤ tp.toInt) ∧ (r.toInt = lo.toInt ∨ (lo.toInt ≤ r.toInt ∧ r.toInt ≤ hi.toInt)) ∧ g.1 a 6 = G.1 a 6))) (RA base) := by
  refine MM.of (by decide) (Nat.le_of_ble_eq_true rfl) ?_
  intro p e s m below meth c C hPT ls hl
  obtain ⟨hx, hb, hr, hml, hown, hts, hlocks, hK, hnm⟩ := C
  obtain ⟨hZ, hT⟩ := hPT
  have hS : va_S (RA base) s.heap s.heap [] := va_S.rf
  have hF : Fr τ [11] G G := Fr.rf
  have hl : lv_has ls 4 [(0, .ref a), (1, .int lo), (2, .int hi)] := hl
  refine lv_aload_n hx hb dX10_number_0 rfl (lv_at hl 0 rfl) ?_
  refine t_geti cf_11 hx hb hts hown hK hT h_a (k := 12) rfl fl_X10_163 (fun _ h9 => h9) dX10_number_1 (fun z_1 ez_1 rz_1 => ?_)
  have ez_1 : z_1 = G.1 a 12 := ez_1
  refine lv_if_eq (tgt := 9) hx hb dX10_number_4 (by decide) (fun c_2 => ?_) (fun c_2 => ?_)
  · skip
    have tc_2 : z_1.toInt = 0 := (fa_eq _ _).mp c_2
    refine lv_aload_n hx hb dX10_number_9 rfl (lv_at hl 0 rfl) ?_
    refine t_geti cf_11 hx hb hts hown hK hT h_a (k := 8) rfl fl_X10_152 (fun _ h9 => h9) dX10_number_10 (fun z_3 ez_3 rz_3 => ?_)
    have ez_3 : z_3 = G.1 a 8 := ez_3
    refine lv_iconst (v := 2) hx hb dX10_number_13 (by decide) ?_
    refine lv_icmp_eq (tgt := 24) hx hb dX10_number_14 (by decide) (fun c_4 => ?_) (fun c_4 => ?_)
    · skip
      have tc_4 : z_3.toInt = 2 := (fa_eq _ _).mp c_4
      refine lv_aload_n hx hb dX10_number_24 rfl (lv_at hl 0 rfl) ?_
      refine t_geti cf_11 hx hb hts hown hK hT h_a (k := 10) rfl fl_X10_145 (fun _ h9 => h9) dX10_number_25 (fun z_5 ez_5 rz_5 => ?_)
      have ez_5 : z_5 = G.1 a 10 := ez_5
      refine lv_i2l hx hb dX10_number_28 rfl ?_
      refine lv_topl (fun z_6 ez_6 => ?_)
      have tz_6 : z_6.toInt = z_5.toInt := by rw [ez_6]; exact wide_t z_5
      have az_6 := min_t z_5
      have bz_6 := max_t z_5
      refine lv_iload_n hx hb dX10_number_29 rfl (lv_at hl 1 rfl) ?_
      refine lv_i2l hx hb dX10_number_30 rfl ?_
      refine lv_topl (fun z_7 ez_7 => ?_)
      have tz_7 : z_7.toInt = lo.toInt := by rw [ez_7]; exact wide_t lo
      have az_7 := min_t lo
      have bz_7 := max_t lo
      refine lv_iload_n hx hb dX10_number_31 rfl (lv_at hl 2 rfl) ?_
      refine lv_i2l hx hb dX10_number_32 rfl ?_
      refine lv_topl (fun z_8 ez_8 => ?_)
      have tz_8 : z_8.toInt = hi.toInt := by rw [ez_8]; exact wide_t hi
      have az_8 := min_t hi
      have bz_8 := max_t hi
      refine pu_calli (runS (As := [.long z_6, .long z_7, .long z_8]) (rest := []) ⟨hx, hb, hml, hown, hts⟩ (t_X10_in l D cy base τ G z_6 z_7 z_8) sS_X10_116 hK ⟨Nat.le_trans hZ hS.1, hT⟩ ⟨Nat.le_of_ble_eq_true rfl, Nat.le_of_ble_eq_true rfl⟩ rfl hl.1 rfl (Nat.le_of_ble_eq_true rfl) dX10_number_33 ⟨Nat.le_of_ble_eq_true rfl, Nat.le_of_ble_eq_true rfl⟩) (fun r_9 hr_9 => ?_)
      have hr_9_c := hr_9
      rcases hr_9_c with hr_9_0 | hr_9_1
      · skip
        obtain ⟨er_9, hr_9_0_f0, hr_9_0_f1⟩ := hr_9_0
        have hr_9_0_f0 : z_7.toInt ≤ z_6.toInt := hr_9_0_f0
        have hr_9_0_f1 : z_6.toInt ≤ z_8.toInt := hr_9_0_f1
        subst er_9
        refine W.eq (g2 := F0 m 36 ls [.int 1]) rfl ?_
        refine lv_if_ne (tgt := 46) hx hb dX10_number_36 (by decide) (fun _ => ?_) (fun c_10 => absurd c_10 (by decide))
        refine lv_aload_n hx hb dX10_number_46 rfl (lv_at hl 0 rfl) ?_
        refine t_geti cf_11 hx hb hts hown hK hT h_a (k := 10) rfl fl_X10_145 (fun _ h9 => h9) dX10_number_47 (fun z_11 ez_11 rz_11 => ?_)
        have w_12 : z_5 = z_11 := ez_5.trans ez_11.symm
        subst w_12
        refine lv_istore_n (lv' := [(3, .int z_5), (0, .ref a), (1, .int lo), (2, .int hi)]) hx hb dX10_number_50 rfl hl (by decide) rfl (fun ls hl => ?_)
        refine lv_aload_n hx hb dX10_number_51 rfl (lv_at hl 1 rfl) ?_
        obtain ⟨q_13, eq_13, hq_13⟩ := (show ∃ q, G.2.2.1 a 5 = some q ∧ τ q = 55 from hT.rgr h_a (by decide) 5)
        refine t_callv (runV (As := []) (rest := []) ⟨hx, hb, hml, hown, hts⟩ (t_X10_next l D cy base τ G a h_a q_13 hq_13 eq_13 tp e_tp ⟨by omega, by omega⟩ a0 e_a0 ⟨by omega, by omega⟩ z_1 ez_1 (by show a0.toInt ≤ tp.toInt; first | assumption | omega | decide)) sV_X10_173 hK (t_recv cf_11 hK hT h_a) ⟨Nat.le_trans hZ hS.1, hT⟩ ⟨Nat.le_of_ble_eq_true rfl, Nat.le_of_ble_eq_true rfl⟩ rfl hl.1 rfl (Nat.le_of_ble_eq_true rfl) dX10_number_52 ⟨Nat.le_of_ble_eq_true rfl, Nat.le_of_ble_eq_true rfl⟩) hS (fun G_14 H locs hF_14 hr_14 hT hS => ?_)
        have hF := hF.tr hF_14 rfl
        obtain ⟨hr_14_p0, hr_14_p1, hr_14_p2, hr_14_s0, hr_14_s1⟩ := hr_14
        have k_20 : tp = G_14.1 a 6 := e_tp.trans hr_14_s0.symm
        have k_21 : z_1 = G_14.1 a 12 := ez_1.trans hr_14_s1.symm
        obtain ⟨z_22, z_23, ez_22, ez_23, hr_14_p0, hr_14_p1, hr_14_p2⟩ : ∃ z_22 z_23 : Int32, z_22 = G_14.1 a 7 ∧ z_23 = G_14.1 a 8 ∧ (a0.toInt ≤ z_22.toInt) ∧ (z_22.toInt ≤ tp.toInt) ∧ (z_23.toInt = 0 ∨ a0.toInt < z_22.toInt) := ⟨_, _, rfl, rfl, hr_14_p0, hr_14_p1, hr_14_p2⟩
        have rz_22 : 0 ≤ z_22.toInt ∧ z_22.toInt ≤ 1600 := by rw [ez_22]; exact hT.rgi h_a (by decide) 7
        refine lv_iload_n hx hb dX10_number_55 rfl (lv_at hl 0 rfl) ?_
        exact ret_i hx hb hr hlocks ⟨⟨hS.1, hS.2.1⟩, G_14, hF, ⟨_, rfl, ⟨(by first | (show a0.toInt ≤ (G_14.1 a 7).toInt; rw [← ez_22]; done) | (show a0.toInt ≤ (G_14.1 a 7).toInt; rw [← ez_22]; show a0.toInt ≤ z_22.toInt; first | omega | assumption)), (by first | (show (G_14.1 a 7).toInt ≤ tp.toInt; rw [← ez_22]; done) | (show (G_14.1 a 7).toInt ≤ tp.toInt; rw [← ez_22]; show z_22.toInt ≤ tp.toInt; first | omega | assumption)), (by show z_5.toInt = lo.toInt ∨ (lo.toInt ≤ z_5.toInt ∧ z_5.toInt ≤ hi.toInt); first | omega | assumption), (k_20.symm.trans e_tp)⟩⟩, hT⟩ hS.2.2 (Nat.le_of_ble_eq_true rfl) (Nat.le_of_ble_eq_true rfl) dX10_number_56
      · skip
        have er_9 := hr_9_1
        subst er_9
        refine W.eq (g2 := F0 m 36 ls [.int 0]) rfl ?_
        refine lv_if_ne (tgt := 46) hx hb dX10_number_36 (by decide) (fun c_24 => absurd rfl c_24) (fun _ => ?_)
        refine lv_aload_n hx hb dX10_number_39 rfl (lv_at hl 0 rfl) ?_
        refine lv_iconst (v := 2) hx hb dX10_number_40 (by decide) ?_
        refine t_callv (runV (As := [.int 2]) (rest := []) ⟨hx, hb, hml, hown, hts⟩ (t_X10_fails l D cy base τ G a h_a 2 (by decide) tp e_tp ⟨by omega, by omega⟩ a0 e_a0 ⟨by omega, by omega⟩ z_3 ez_3 z_1 ez_1) sV_X10_179 hK (t_recv cf_11 hK hT h_a) ⟨Nat.le_trans hZ hS.1, hT⟩ ⟨Nat.le_of_ble_eq_true rfl, Nat.le_of_ble_eq_true rfl⟩ rfl hl.1 rfl (Nat.le_of_ble_eq_true rfl) dX10_number_41 ⟨Nat.le_of_ble_eq_true rfl, Nat.le_of_ble_eq_true rfl⟩) hS (fun G_25 H locs hF_25 hr_25 hT hS => ?_)
        have hF := hF.tr hF_25 rfl
        obtain ⟨hr_25_p0, hr_25_s0, hr_25_s1, hr_25_s2⟩ := hr_25
        have k_31 : tp = G_25.1 a 6 := e_tp.trans hr_25_s0.symm
        have k_32 : a0 = G_25.1 a 7 := e_a0.trans hr_25_s1.symm
        have k_33 : z_3 = G_25.1 a 8 := ez_3.trans hr_25_s2.symm
        obtain ⟨z_34, ez_34, hr_25_p0⟩ : ∃ z_34 : Int32, z_34 = G_25.1 a 12 ∧ (z_34.toInt ≠ 0) := ⟨_, rfl, hr_25_p0⟩
        refine lv_iload_n hx hb dX10_number_44 rfl (lv_at hl 1 rfl) ?_
        exact ret_i hx hb hr hlocks ⟨⟨hS.1, hS.2.1⟩, G_25, hF, ⟨_, rfl, ⟨(by first | (show a0.toInt ≤ (G_25.1 a 7).toInt; rw [← k_32]; done) | (show a0.toInt ≤ (G_25.1 a 7).toInt; rw [← k_32]; show a0.toInt ≤ a0.toInt; first | omega | assumption)), (by first | (show (G_25.1 a 7).toInt ≤ tp.toInt; rw [← k_32]; done) | (show (G_25.1 a 7).toInt ≤ tp.toInt; rw [← k_32]; show a0.toInt ≤ tp.toInt; first | omega | assumption)), (by show lo.toInt = lo.toInt ∨ (lo.toInt ≤ lo.toInt ∧ lo.toInt ≤ hi.toInt); first | omega | assumption), (k_31.symm.trans e_tp)⟩⟩, hT⟩ hS.2.2 (Nat.le_of_ble_eq_true rfl) (Nat.le_of_ble_eq_true rfl) dX10_number_45
    · skip
      have tc_4 : ¬ z_3.toInt = 2 := fun h => c_4 ((fa_eq _ _).mpr h)
      refine lv_aload_n hx hb dX10_number_17 rfl (lv_at hl 0 rfl) ?_
      refine lv_iconst (v := 1) hx hb dX10_number_18 (by decide) ?_
      refine t_callv (runV (As := [.int 1]) (rest := []) ⟨hx, hb, hml, hown, hts⟩ (t_X10_fails l D cy base τ G a h_a 1 (by decide) tp e_tp ⟨by omega, by omega⟩ a0 e_a0 ⟨by omega, by omega⟩ z_3 ez_3 z_1 ez_1) sV_X10_179 hK (t_recv cf_11 hK hT h_a) ⟨Nat.le_trans hZ hS.1, hT⟩ ⟨Nat.le_of_ble_eq_true rfl, Nat.le_of_ble_eq_true rfl⟩ rfl hl.1 rfl (Nat.le_of_ble_eq_true rfl) dX10_number_19 ⟨Nat.le_of_ble_eq_true rfl, Nat.le_of_ble_eq_true rfl⟩) hS (fun G_35 H locs hF_35 hr_35 hT hS => ?_)
      have hF := hF.tr hF_35 rfl
      obtain ⟨hr_35_p0, hr_35_s0, hr_35_s1, hr_35_s2⟩ := hr_35
      have k_40 : tp = G_35.1 a 6 := e_tp.trans hr_35_s0.symm
      have k_41 : a0 = G_35.1 a 7 := e_a0.trans hr_35_s1.symm
      have k_42 : z_3 = G_35.1 a 8 := ez_3.trans hr_35_s2.symm
      obtain ⟨z_43, ez_43, hr_35_p0⟩ : ∃ z_43 : Int32, z_43 = G_35.1 a 12 ∧ (z_43.toInt ≠ 0) := ⟨_, rfl, hr_35_p0⟩
      refine lv_iload_n hx hb dX10_number_22 rfl (lv_at hl 1 rfl) ?_
      exact ret_i hx hb hr hlocks ⟨⟨hS.1, hS.2.1⟩, G_35, hF, ⟨_, rfl, ⟨(by first | (show a0.toInt ≤ (G_35.1 a 7).toInt; rw [← k_41]; done) | (show a0.toInt ≤ (G_35.1 a 7).toInt; rw [← k_41]; show a0.toInt ≤ a0.toInt; first | omega | assumption)), (by first | (show (G_35.1 a 7).toInt ≤ tp.toInt; rw [← k_41]; done) | (show (G_35.1 a 7).toInt ≤ tp.toInt; rw [← k_41]; show a0.toInt ≤ tp.toInt; first | omega | assumption)), (by show lo.toInt = lo.toInt ∨ (lo.toInt ≤ lo.toInt ∧ lo.toInt ≤ hi.toInt); first | omega | assumption), (k_40.symm.trans e_tp)⟩⟩, hT⟩ hS.2.2 (Nat.le_of_ble_eq_true rfl) (Nat.le_of_ble_eq_true rfl) dX10_number_23
  · skip
    have tc_2 : ¬ z_1.toInt = 0 := fun h => c_2 ((fa_eq _ _).mpr h)
    refine lv_iload_n hx hb dX10_number_7 rfl (lv_at hl 1 rfl) ?_
    exact ret_i hx hb hr hlocks ⟨⟨hS.1, hS.2.1⟩, G, hF, ⟨_, rfl, ⟨(by first | (show a0.toInt ≤ (G.1 a 7).toInt; rw [← e_a0]; done) | (show a0.toInt ≤ (G.1 a 7).toInt; rw [← e_a0]; show a0.toInt ≤ a0.toInt; first | omega | assumption)), (by first | (show (G.1 a 7).toInt ≤ tp.toInt; rw [← e_a0]; done) | (show (G.1 a 7).toInt ≤ tp.toInt; rw [← e_a0]; show a0.toInt ≤ tp.toInt; first | omega | assumption)), (by show lo.toInt = lo.toInt ∨ (lo.toInt ≤ lo.toInt ∧ lo.toInt ≤ hi.toInt); first | omega | assumption), rfl⟩⟩, hT⟩ hS.2.2 (Nat.le_of_ble_eq_true rfl) (Nat.le_of_ble_eq_true rfl) dX10_number_8
set_option maxHeartbeats 4000000 in
set_option maxRecDepth 100000 in
theorem t_X10_number_ (l : Launch) (D : va_G) (cy : Nat → ClassId) (base : Nat) (τ : Nat → Nat) (G : Gh) (a : Nat) (h_a : τ a = 11) (x : Int64) (lo : Int32) (hi : Int32) (tp : Int32) (e_tp : tp = G.1 a 6) (r_tp : 0 ≤ tp.toInt ∧ tp.toInt ≤ 1600) (a0 : Int32) (e_a0 : a0 = G.1 a 7) (r_a0 : 0 ≤ a0.toInt ∧ a0.toInt ≤ 1600) (hat : a0.toInt ≤ tp.toInt) : MM l yX10_number_ cX10_number_ 5 (some .int) 4 0 0 D cy [.ref a, .long x, .int lo, .int hi] (PT D cy base τ G) (QT D cy base τ G [11] (fun v g => ∃ r : Int32, v = some (.int r) ∧ ((a0.toInt ≤ (g.1 a 7).toInt) ∧ ((g.1 a 7).toInt ≤ tp.toInt) ∧ (r.toInt = lo.toInt ∨ (lo.toInt ≤ r.toInt ∧ r.toInt ≤ hi.toInt)) ∧ g.1 a 6 = G.1 a 6))) (RA base) := by
  refine MM.of (by decide) (Nat.le_of_ble_eq_true rfl) ?_
  intro p e s m below meth c C hPT ls hl
  obtain ⟨hx, hb, hr, hml, hown, hts, hlocks, hK, hnm⟩ := C
  obtain ⟨hZ, hT⟩ := hPT
  have hS : va_S (RA base) s.heap s.heap [] := va_S.rf
  have hF : Fr τ [11] G G := Fr.rf
  have hl : lv_has ls 5 [(0, .ref a), (1, .long x), (3, .int lo), (4, .int hi)] := hl
  refine lv_aload_n hx hb dX10_number__0 rfl (lv_at hl 0 rfl) ?_
  refine lv_lload_n hx hb dX10_number__1 rfl (lv_at hl 1 rfl) ?_
  refine t_callv (runV (As := [.long x]) (rest := []) ⟨hx, hb, hml, hown, hts⟩ (t_X10_asks l D cy base τ G a h_a x tp e_tp ⟨by omega, by omega⟩ a0 e_a0 ⟨by omega, by omega⟩ (by show a0.toInt ≤ tp.toInt; first | assumption | omega | decide)) sV_X10_182 hK (t_recv cf_11 hK hT h_a) ⟨Nat.le_trans hZ hS.1, hT⟩ ⟨Nat.le_of_ble_eq_true rfl, Nat.le_of_ble_eq_true rfl⟩ rfl hl.1 rfl (Nat.le_of_ble_eq_true rfl) dX10_number__2 ⟨Nat.le_of_ble_eq_true rfl, Nat.le_of_ble_eq_true rfl⟩) hS (fun G_1 H locs hF_1 hr_1 hT hS => ?_)
  have hF := hF.tr hF_1 rfl
  obtain ⟨hr_1_p0, hr_1_p1, hr_1_s0⟩ := hr_1
  have k_4 : tp = G_1.1 a 6 := e_tp.trans hr_1_s0.symm
  obtain ⟨z_5, ez_5, hr_1_p0, hr_1_p1⟩ : ∃ z_5 : Int32, z_5 = G_1.1 a 7 ∧ (a0.toInt ≤ z_5.toInt) ∧ (z_5.toInt ≤ tp.toInt) := ⟨_, rfl, hr_1_p0, hr_1_p1⟩
  have rz_5 : 0 ≤ z_5.toInt ∧ z_5.toInt ≤ 1600 := by rw [ez_5]; exact hT.rgi h_a (by decide) 7
  refine lv_aload_n hx hb dX10_number__5 rfl (lv_at hl 0 rfl) ?_
  refine lv_iload_n hx hb dX10_number__6 rfl (lv_at hl 2 rfl) ?_
  refine lv_iload hx hb dX10_number__7 (lv_at hl 3 rfl) ?_
  refine t_calli (runV (As := [.int lo, .int hi]) (rest := []) ⟨hx, hb, hml, hown, hts⟩ (t_X10_number l D cy base τ G_1 a h_a lo hi tp k_4 ⟨by omega, by omega⟩ z_5 ez_5 ⟨by omega, by omega⟩ (by show z_5.toInt ≤ tp.toInt; first | assumption | omega | decide)) sV_X10_186 hK (t_recv cf_11 hK hT h_a) ⟨Nat.le_trans hZ hS.1, hT⟩ ⟨Nat.le_of_ble_eq_true rfl, Nat.le_of_ble_eq_true rfl⟩ rfl hl.1 rfl (Nat.le_of_ble_eq_true rfl) dX10_number__9 ⟨Nat.le_of_ble_eq_true rfl, Nat.le_of_ble_eq_true rfl⟩) hS (fun r_6 G_6 H locs hF_6 hr_6 hT hS => ?_)
  have hF := hF.tr hF_6 rfl
  obtain ⟨hr_6_p0, hr_6_p1, hr_6_p2, hr_6_s0⟩ := hr_6
  have k_9 : tp = G_6.1 a 6 := k_4.trans hr_6_s0.symm
  obtain ⟨z_10, ez_10, hr_6_p0, hr_6_p1, hr_6_p2⟩ : ∃ z_10 : Int32, z_10 = G_6.1 a 7 ∧ (z_5.toInt ≤ z_10.toInt) ∧ (z_10.toInt ≤ tp.toInt) ∧ (r_6.toInt = lo.toInt ∨ (lo.toInt ≤ r_6.toInt ∧ r_6.toInt ≤ hi.toInt)) := ⟨_, rfl, hr_6_p0, hr_6_p1, hr_6_p2⟩
  have rz_10 : 0 ≤ z_10.toInt ∧ z_10.toInt ≤ 1600 := by rw [ez_10]; exact hT.rgi h_a (by decide) 7
  exact ret_i hx hb hr hlocks ⟨⟨hS.1, hS.2.1⟩, G_6, hF, ⟨_, rfl, ⟨(by first | (show a0.toInt ≤ (G_6.1 a 7).toInt; rw [← ez_10]; done) | (show a0.toInt ≤ (G_6.1 a 7).toInt; rw [← ez_10]; show a0.toInt ≤ z_10.toInt; first | omega | assumption)), (by first | (show (G_6.1 a 7).toInt ≤ tp.toInt; rw [← ez_10]; done) | (show (G_6.1 a 7).toInt ≤ tp.toInt; rw [← ez_10]; show z_10.toInt ≤ tp.toInt; first | omega | assumption)), (by show r_6.toInt = lo.toInt ∨ (lo.toInt ≤ r_6.toInt ∧ r_6.toInt ≤ hi.toInt); first | omega | assumption), (k_9.symm.trans e_tp)⟩⟩, hT⟩ hS.2.2 (Nat.le_of_ble_eq_true rfl) (Nat.le_of_ble_eq_true rfl) dX10_number__12
set_option maxHeartbeats 4000000 in
set_option maxRecDepth 100000 in
theorem t_X10_ends (l : Launch) (D : va_G) (cy : Nat → ClassId) (base : Nat) (τ : Nat → Nat) (G : Gh) (a : Nat) (h_a : τ a = 11) (tp : Int32) (e_tp : tp = G.1 a 6) (r_tp : 0 ≤ tp.toInt ∧ tp.toInt ≤ 1600) (a0 : Int32) (e_a0 : a0 = G.1 a 7) (r_a0 : 0 ≤ a0.toInt ∧ a0.toInt ≤ 1600) (hat : a0.toInt ≤ tp.toInt) : MM l yX10_ends cX10_ends 1 none 2 0 0 D cy [.ref a] (PT D cy base τ G) (QT D cy base τ G [11] (fun v g => v = none ∧ ((a0.toInt ≤ (g.1 a 7).toInt) ∧ ((g.1 a 7).toInt ≤ tp.toInt) ∧ ((g.1 a 12).toInt ≠ 0 ∨ (g.1 a 8).toInt = 0 ∨ a0.toInt < (g.1 a 7).toInt) ∧ g.1 a 6 = G.1 a 6))) (RA base) := by
  refine MM.of (by decide) (Nat.le_of_ble_eq_true rfl) ?_
  intro p e s m below meth c C hPT ls hl
  obtain ⟨hx, hb, hr, hml, hown, hts, hlocks, hK, hnm⟩ := C
  obtain ⟨hZ, hT⟩ := hPT
  have hS : va_S (RA base) s.heap s.heap [] := va_S.rf
  have hF : Fr τ [11] G G := Fr.rf
  have hl : lv_has ls 1 [(0, .ref a)] := hl
  refine lv_aload_n hx hb dX10_ends_0 rfl (lv_at hl 0 rfl) ?_
  refine t_geti cf_11 hx hb hts hown hK hT h_a (k := 8) rfl fl_X10_152 (fun _ h9 => h9) dX10_ends_1 (fun z_1 ez_1 rz_1 => ?_)
  have ez_1 : z_1 = G.1 a 8 := ez_1
  refine lv_iconst (v := 3) hx hb dX10_ends_4 (by decide) ?_
  refine lv_icmp_eq (tgt := 13) hx hb dX10_ends_5 (by decide) (fun c_2 => ?_) (fun c_2 => ?_)
  · skip
    have tc_2 : z_1.toInt = 3 := (fa_eq _ _).mp c_2
    refine lv_aload_n hx hb dX10_ends_13 rfl (lv_at hl 0 rfl) ?_
    refine t_geti cf_11 hx hb hts hown hK hT h_a (k := 12) rfl fl_X10_163 (fun _ h9 => h9) dX10_ends_14 (fun z_3 ez_3 rz_3 => ?_)
    have ez_3 : z_3 = G.1 a 12 := ez_3
    refine lv_if_ne (tgt := 24) hx hb dX10_ends_17 (by decide) (fun c_4 => ?_) (fun c_4 => ?_)
    · skip
      have tc_4 : ¬ z_3.toInt = 0 := fun h => c_4 ((fa_eq _ _).mpr h)
      exact ret_v hx hb hr hlocks ⟨⟨hS.1, hS.2.1⟩, G, hF, ⟨rfl, ⟨(by first | (show a0.toInt ≤ (G.1 a 7).toInt; rw [← e_a0]; done) | (show a0.toInt ≤ (G.1 a 7).toInt; rw [← e_a0]; show a0.toInt ≤ a0.toInt; first | omega | assumption)), (by first | (show (G.1 a 7).toInt ≤ tp.toInt; rw [← e_a0]; done) | (show (G.1 a 7).toInt ≤ tp.toInt; rw [← e_a0]; show a0.toInt ≤ tp.toInt; first | omega | assumption)), (by first | (show (G.1 a 12).toInt ≠ 0 ∨ (G.1 a 8).toInt = 0 ∨ a0.toInt < (G.1 a 7).toInt; rw [← e_a0, ← ez_1, ← ez_3]; done) | (show (G.1 a 12).toInt ≠ 0 ∨ (G.1 a 8).toInt = 0 ∨ a0.toInt < (G.1 a 7).toInt; rw [← e_a0, ← ez_1, ← ez_3]; show z_3.toInt ≠ 0 ∨ z_1.toInt = 0 ∨ a0.toInt < a0.toInt; first | omega | assumption)), rfl⟩⟩, hT⟩ hS.2.2 (Nat.le_of_ble_eq_true rfl) (Nat.le_of_ble_eq_true rfl) dX10_ends_24
    · skip
      have tc_4 : z_3.toInt = 0 := (fa_eq _ _).mp c_4
      refine lv_aload_n hx hb dX10_ends_20 rfl (lv_at hl 0 rfl) ?_
      obtain ⟨q_5, eq_5, hq_5⟩ := (show ∃ q, G.2.2.1 a 5 = some q ∧ τ q = 55 from hT.rgr h_a (by decide) 5)
      refine t_callv (runV (As := []) (rest := []) ⟨hx, hb, hml, hown, hts⟩ (t_X10_next l D cy base τ G a h_a q_5 hq_5 eq_5 tp e_tp ⟨by omega, by omega⟩ a0 e_a0 ⟨by omega, by omega⟩ z_3 ez_3 (by show a0.toInt ≤ tp.toInt; first | assumption | omega | decide)) sV_X10_173 hK (t_recv cf_11 hK hT h_a) ⟨Nat.le_trans hZ hS.1, hT⟩ ⟨Nat.le_of_ble_eq_true rfl, Nat.le_of_ble_eq_true rfl⟩ rfl hl.1 rfl (Nat.le_of_ble_eq_true rfl) dX10_ends_21 ⟨Nat.le_of_ble_eq_true rfl, Nat.le_of_ble_eq_true rfl⟩) hS (fun G_6 H locs hF_6 hr_6 hT hS => ?_)
      have hF := hF.tr hF_6 rfl
      obtain ⟨hr_6_p0, hr_6_p1, hr_6_p2, hr_6_s0, hr_6_s1⟩ := hr_6
      have k_11 : tp = G_6.1 a 6 := e_tp.trans hr_6_s0.symm
      have k_12 : z_3 = G_6.1 a 12 := ez_3.trans hr_6_s1.symm
      obtain ⟨z_13, z_14, ez_13, ez_14, hr_6_p0, hr_6_p1, hr_6_p2⟩ : ∃ z_13 z_14 : Int32, z_13 = G_6.1 a 7 ∧ z_14 = G_6.1 a 8 ∧ (a0.toInt ≤ z_13.toInt) ∧ (z_13.toInt ≤ tp.toInt) ∧ (z_14.toInt = 0 ∨ a0.toInt < z_13.toInt) := ⟨_, _, rfl, rfl, hr_6_p0, hr_6_p1, hr_6_p2⟩
      have rz_13 : 0 ≤ z_13.toInt ∧ z_13.toInt ≤ 1600 := by rw [ez_13]; exact hT.rgi h_a (by decide) 7
      exact ret_v hx hb hr hlocks ⟨⟨hS.1, hS.2.1⟩, G_6, hF, ⟨rfl, ⟨(by first | (show a0.toInt ≤ (G_6.1 a 7).toInt; rw [← ez_13]; done) | (show a0.toInt ≤ (G_6.1 a 7).toInt; rw [← ez_13]; show a0.toInt ≤ z_13.toInt; first | omega | assumption)), (by first | (show (G_6.1 a 7).toInt ≤ tp.toInt; rw [← ez_13]; done) | (show (G_6.1 a 7).toInt ≤ tp.toInt; rw [← ez_13]; show z_13.toInt ≤ tp.toInt; first | omega | assumption)), (by first | (show (G_6.1 a 12).toInt ≠ 0 ∨ (G_6.1 a 8).toInt = 0 ∨ a0.toInt < (G_6.1 a 7).toInt; rw [← ez_13, ← ez_14, ← k_12]; done) | (show (G_6.1 a 12).toInt ≠ 0 ∨ (G_6.1 a 8).toInt = 0 ∨ a0.toInt < (G_6.1 a 7).toInt; rw [← ez_13, ← ez_14, ← k_12]; show z_3.toInt ≠ 0 ∨ z_14.toInt = 0 ∨ a0.toInt < z_13.toInt; first | omega | assumption)), (k_11.symm.trans e_tp)⟩⟩, hT⟩ hS.2.2 (Nat.le_of_ble_eq_true rfl) (Nat.le_of_ble_eq_true rfl) dX10_ends_24
  · skip
    have tc_2 : ¬ z_1.toInt = 3 := fun h => c_2 ((fa_eq _ _).mpr h)
    refine lv_aload_n hx hb dX10_ends_8 rfl (lv_at hl 0 rfl) ?_
    refine lv_iconst (v := 1) hx hb dX10_ends_9 (by decide) ?_
    obtain ⟨z_15, ez_15⟩ : ∃ y : Int32, y = G.1 a 12 := ⟨_, rfl⟩
    refine t_callv (runV (As := [.int 1]) (rest := []) ⟨hx, hb, hml, hown, hts⟩ (t_X10_fails l D cy base τ G a h_a 1 (by decide) tp e_tp ⟨by omega, by omega⟩ a0 e_a0 ⟨by omega, by omega⟩ z_1 ez_1 z_15 ez_15) sV_X10_179 hK (t_recv cf_11 hK hT h_a) ⟨Nat.le_trans hZ hS.1, hT⟩ ⟨Nat.le_of_ble_eq_true rfl, Nat.le_of_ble_eq_true rfl⟩ rfl hl.1 rfl (Nat.le_of_ble_eq_true rfl) dX10_ends_10 ⟨Nat.le_of_ble_eq_true rfl, Nat.le_of_ble_eq_true rfl⟩) hS (fun G_16 H locs hF_16 hr_16 hT hS => ?_)
    have hF := hF.tr hF_16 rfl
    obtain ⟨hr_16_p0, hr_16_s0, hr_16_s1, hr_16_s2⟩ := hr_16
    have k_21 : tp = G_16.1 a 6 := e_tp.trans hr_16_s0.symm
    have k_22 : a0 = G_16.1 a 7 := e_a0.trans hr_16_s1.symm
    have k_23 : z_1 = G_16.1 a 8 := ez_1.trans hr_16_s2.symm
    obtain ⟨z_24, ez_24, hr_16_p0⟩ : ∃ z_24 : Int32, z_24 = G_16.1 a 12 ∧ (z_24.toInt ≠ 0) := ⟨_, rfl, hr_16_p0⟩
    refine lv_aload_n hx hb dX10_ends_13 rfl (lv_at hl 0 rfl) ?_
    refine t_geti cf_11 hx hb hts hown hK hT h_a (k := 12) rfl fl_X10_163 (fun _ h9 => h9) dX10_ends_14 (fun z_25 ez_25 rz_25 => ?_)
    have w_26 : z_24 = z_25 := ez_24.trans ez_25.symm
    subst w_26
    refine lv_if_ne (tgt := 24) hx hb dX10_ends_17 (by decide) (fun c_27 => ?_) (fun c_27 => ?_)
    · skip
      have tc_27 : ¬ z_24.toInt = 0 := fun h => c_27 ((fa_eq _ _).mpr h)
      exact ret_v hx hb hr hlocks ⟨⟨hS.1, hS.2.1⟩, G_16, hF, ⟨rfl, ⟨(by first | (show a0.toInt ≤ (G_16.1 a 7).toInt; rw [← k_22]; done) | (show a0.toInt ≤ (G_16.1 a 7).toInt; rw [← k_22]; show a0.toInt ≤ a0.toInt; first | omega | assumption)), (by first | (show (G_16.1 a 7).toInt ≤ tp.toInt; rw [← k_22]; done) | (show (G_16.1 a 7).toInt ≤ tp.toInt; rw [← k_22]; show a0.toInt ≤ tp.toInt; first | omega | assumption)), (by first | (show (G_16.1 a 12).toInt ≠ 0 ∨ (G_16.1 a 8).toInt = 0 ∨ a0.toInt < (G_16.1 a 7).toInt; rw [← k_22, ← k_23, ← ez_24]; done) | (show (G_16.1 a 12).toInt ≠ 0 ∨ (G_16.1 a 8).toInt = 0 ∨ a0.toInt < (G_16.1 a 7).toInt; rw [← k_22, ← k_23, ← ez_24]; show z_24.toInt ≠ 0 ∨ z_1.toInt = 0 ∨ a0.toInt < a0.toInt; first | omega | assumption)), (k_21.symm.trans e_tp)⟩⟩, hT⟩ hS.2.2 (Nat.le_of_ble_eq_true rfl) (Nat.le_of_ble_eq_true rfl) dX10_ends_24
    · skip
      have tc_27 : z_24.toInt = 0 := (fa_eq _ _).mp c_27
      refine lv_aload_n hx hb dX10_ends_20 rfl (lv_at hl 0 rfl) ?_
      obtain ⟨q_28, eq_28, hq_28⟩ := (show ∃ q, G_16.2.2.1 a 5 = some q ∧ τ q = 55 from hT.rgr h_a (by decide) 5)
      have eq_28 := (hF.r h_a (by decide) rfl _).symm.trans eq_28
      refine t_callv (runV (As := []) (rest := []) ⟨hx, hb, hml, hown, hts⟩ (t_X10_next l D cy base τ G_16 a h_a q_28 hq_28 ((hF.r h_a (by decide) rfl _).trans eq_28) tp k_21 ⟨by omega, by omega⟩ a0 k_22 ⟨by omega, by omega⟩ z_24 ez_24 (by show a0.toInt ≤ tp.toInt; first | assumption | omega | decide)) sV_X10_173 hK (t_recv cf_11 hK hT h_a) ⟨Nat.le_trans hZ hS.1, hT⟩ ⟨Nat.le_of_ble_eq_true rfl, Nat.le_of_ble_eq_true rfl⟩ rfl hl.1 rfl (Nat.le_of_ble_eq_true rfl) dX10_ends_21 ⟨Nat.le_of_ble_eq_true rfl, Nat.le_of_ble_eq_true rfl⟩) hS (fun G_29 H locs hF_29 hr_29 hT hS => ?_)
      have hF := hF.tr hF_29 rfl
      obtain ⟨hr_29_p0, hr_29_p1, hr_29_p2, hr_29_s0, hr_29_s1⟩ := hr_29
      have k_34 : tp = G_29.1 a 6 := k_21.trans hr_29_s0.symm
      have k_35 : z_24 = G_29.1 a 12 := ez_24.trans hr_29_s1.symm
      obtain ⟨z_36, z_37, ez_36, ez_37, hr_29_p0, hr_29_p1, hr_29_p2⟩ : ∃ z_36 z_37 : Int32, z_36 = G_29.1 a 7 ∧ z_37 = G_29.1 a 8 ∧ (a0.toInt ≤ z_36.toInt) ∧ (z_36.toInt ≤ tp.toInt) ∧ (z_37.toInt = 0 ∨ a0.toInt < z_36.toInt) := ⟨_, _, rfl, rfl, hr_29_p0, hr_29_p1, hr_29_p2⟩
      have rz_36 : 0 ≤ z_36.toInt ∧ z_36.toInt ≤ 1600 := by rw [ez_36]; exact hT.rgi h_a (by decide) 7
      exact ret_v hx hb hr hlocks ⟨⟨hS.1, hS.2.1⟩, G_29, hF, ⟨rfl, ⟨(by first | (show a0.toInt ≤ (G_29.1 a 7).toInt; rw [← ez_36]; done) | (show a0.toInt ≤ (G_29.1 a 7).toInt; rw [← ez_36]; show a0.toInt ≤ z_36.toInt; first | omega | assumption)), (by first | (show (G_29.1 a 7).toInt ≤ tp.toInt; rw [← ez_36]; done) | (show (G_29.1 a 7).toInt ≤ tp.toInt; rw [← ez_36]; show z_36.toInt ≤ tp.toInt; first | omega | assumption)), (by first | (show (G_29.1 a 12).toInt ≠ 0 ∨ (G_29.1 a 8).toInt = 0 ∨ a0.toInt < (G_29.1 a 7).toInt; rw [← ez_36, ← ez_37, ← k_35]; done) | (show (G_29.1 a 12).toInt ≠ 0 ∨ (G_29.1 a 8).toInt = 0 ∨ a0.toInt < (G_29.1 a 7).toInt; rw [← ez_36, ← ez_37, ← k_35]; show z_24.toInt ≠ 0 ∨ z_37.toInt = 0 ∨ a0.toInt < z_36.toInt; first | omega | assumption)), (k_34.symm.trans e_tp)⟩⟩, hT⟩ hS.2.2 (Nat.le_of_ble_eq_true rfl) (Nat.le_of_ble_eq_true rfl) dX10_ends_24
set_option maxHeartbeats 4000000 in
set_option maxRecDepth 100000 in
theorem t_X10_begins (l : Launch) (D : va_G) (cy : Nat → ClassId) (base : Nat) (τ : Nat → Nat) (G : Gh) (a : Nat) (h_a : τ a = 11) (tp : Int32) (e_tp : tp = G.1 a 6) (r_tp : 0 ≤ tp.toInt ∧ tp.toInt ≤ 1600) : MM l yX10_begins cX10_begins 1 none 2 0 0 D cy [.ref a] (PT D cy base τ G) (QT D cy base τ G [11] (fun v g => v = none ∧ (((g.1 a 7).toInt ≤ tp.toInt) ∧ g.1 a 6 = G.1 a 6))) (RA base) := by
  refine MM.of (by decide) (Nat.le_of_ble_eq_true rfl) ?_
  intro p e s m below meth c C hPT ls hl
  obtain ⟨hx, hb, hr, hml, hown, hts, hlocks, hK, hnm⟩ := C
  obtain ⟨hZ, hT⟩ := hPT
  have hS : va_S (RA base) s.heap s.heap [] := va_S.rf
  have hF : Fr τ [11] G G := Fr.rf
  have hl : lv_has ls 1 [(0, .ref a)] := hl
  refine lv_aload_n hx hb dX10_begins_0 rfl (lv_at hl 0 rfl) ?_
  refine lv_iconst (v := 0) hx hb dX10_begins_1 (by decide) ?_
  refine t_puti (x := 0) cf_11 hx hb hts hown hK hT hS h_a (k := 12) rfl trivial fl_X10_163 (fun _ h9 => h9) rfl rfl rfl dX10_begins_2 (fun H locs G_1 eG_1 hT hS => ?_)
  have hF := hF.wI eG_1 h_a rfl
  have k_2 : tp = G_1.1 a 6 := by rw [eG_1, wI_ne (Or.inr (by decide))]; exact e_tp
  have k_3 : (0 : Int32) = G_1.1 a 12 := by rw [eG_1, wI_at]
  refine lv_aload_n hx hb dX10_begins_5 rfl (lv_at hl 0 rfl) ?_
  refine lv_iconst (v := (-1)) hx hb dX10_begins_6 (by decide) ?_
  refine t_puti (x := (-1)) cf_11 hx hb hts hown hK hT hS h_a (k := 13) rfl trivial fl_X10_166 (fun _ h9 => h9) rfl rfl rfl dX10_begins_7 (fun H locs G_4 eG_4 hT hS => ?_)
  have hF := hF.wI eG_4 h_a rfl
  have k_5 : tp = G_4.1 a 6 := by rw [eG_4, wI_ne (Or.inr (by decide))]; exact k_2
  have k_6 : 0 = G_4.1 a 12 := by rw [eG_4, wI_ne (Or.inr (by decide))]; exact k_3
  refine lv_aload_n hx hb dX10_begins_10 rfl (lv_at hl 0 rfl) ?_
  refine lv_iconst (v := 0) hx hb dX10_begins_11 (by decide) ?_
  refine t_puti (x := 0) cf_11 hx hb hts hown hK hT hS h_a (k := 7) rfl (show 0 ≤ (0 : Int32).toInt ∧ (0 : Int32).toInt ≤ 1600 from by decide) fl_X10_135 (fun _ h9 => h9) rfl rfl rfl dX10_begins_12 (fun H locs G_7 eG_7 hT hS => ?_)
  have hF := hF.wI eG_7 h_a rfl
  have k_8 : tp = G_7.1 a 6 := by rw [eG_7, wI_ne (Or.inr (by decide))]; exact k_5
  have k_9 : 0 = G_7.1 a 12 := by rw [eG_7, wI_ne (Or.inr (by decide))]; exact k_6
  have k_10 : (0 : Int32) = G_7.1 a 7 := by rw [eG_7, wI_at]
  refine lv_aload_n hx hb dX10_begins_15 rfl (lv_at hl 0 rfl) ?_
  obtain ⟨q_11, eq_11, hq_11⟩ := (show ∃ q, G_7.2.2.1 a 5 = some q ∧ τ q = 55 from hT.rgr h_a (by decide) 5)
  have eq_11 := (hF.r h_a (by decide) rfl _).symm.trans eq_11
  refine t_callv (runV (As := []) (rest := []) ⟨hx, hb, hml, hown, hts⟩ (t_X10_next l D cy base τ G_7 a h_a q_11 hq_11 ((hF.r h_a (by decide) rfl _).trans eq_11) tp k_8 ⟨by omega, by omega⟩ (0 : Int32) k_10 (by decide) (0 : Int32) k_9 (by show (0 : Int) ≤ tp.toInt; first | assumption | omega | decide)) sV_X10_173 hK (t_recv cf_11 hK hT h_a) ⟨Nat.le_trans hZ hS.1, hT⟩ ⟨Nat.le_of_ble_eq_true rfl, Nat.le_of_ble_eq_true rfl⟩ rfl hl.1 rfl (Nat.le_of_ble_eq_true rfl) dX10_begins_16 ⟨Nat.le_of_ble_eq_true rfl, Nat.le_of_ble_eq_true rfl⟩) hS (fun G_12 H locs hF_12 hr_12 hT hS => ?_)
  have hF := hF.tr hF_12 rfl
  obtain ⟨hr_12_p0, hr_12_p1, hr_12_p2, hr_12_s0, hr_12_s1⟩ := hr_12
  have k_16 : tp = G_12.1 a 6 := k_8.trans hr_12_s0.symm
  have k_17 : (0 : Int32) = G_12.1 a 12 := k_9.trans hr_12_s1.symm
  obtain ⟨z_18, z_19, ez_18, ez_19, hr_12_p0, hr_12_p1, hr_12_p2⟩ : ∃ z_18 z_19 : Int32, z_18 = G_12.1 a 7 ∧ z_19 = G_12.1 a 8 ∧ ((0 : Int) ≤ z_18.toInt) ∧ (z_18.toInt ≤ tp.toInt) ∧ (z_19.toInt = 0 ∨ (0 : Int) < z_18.toInt) := ⟨_, _, rfl, rfl, hr_12_p0, hr_12_p1, hr_12_p2⟩
  have rz_18 : 0 ≤ z_18.toInt ∧ z_18.toInt ≤ 1600 := by rw [ez_18]; exact hT.rgi h_a (by decide) 7
  exact ret_v hx hb hr hlocks ⟨⟨hS.1, hS.2.1⟩, G_12, hF, ⟨rfl, ⟨(by first | (show (G_12.1 a 7).toInt ≤ tp.toInt; rw [← ez_18]; done) | (show (G_12.1 a 7).toInt ≤ tp.toInt; rw [← ez_18]; show z_18.toInt ≤ tp.toInt; first | omega | assumption)), (k_16.symm.trans e_tp)⟩⟩, hT⟩ hS.2.2 (Nat.le_of_ble_eq_true rfl) (Nat.le_of_ble_eq_true rfl) dX10_begins_19
set_option maxHeartbeats 4000000 in
set_option maxRecDepth 100000 in
theorem t_X10_isOver (l : Launch) (D : va_G) (cy : Nat → ClassId) (base : Nat) (τ : Nat → Nat) (G : Gh) (a : Nat) (h_a : τ a = 11) : MM l yX10_isOver cX10_isOver 1 none 0 0 0 D cy [.ref a] (PT D cy base τ G) (QT D cy base τ G [11] (fun v g => v = none ∧ (True))) (RA base) := by
  refine MM.of (by decide) (Nat.le_of_ble_eq_true rfl) ?_
  intro p e s m below meth c C hPT ls hl
  obtain ⟨hx, hb, hr, hml, hown, hts, hlocks, hK, hnm⟩ := C
  obtain ⟨hZ, hT⟩ := hPT
  have hS : va_S (RA base) s.heap s.heap [] := va_S.rf
  have hF : Fr τ [11] G G := Fr.rf
  have hl : lv_has ls 1 [(0, .ref a)] := hl
  refine lv_aload_n hx hb dX10_isOver_0 rfl (lv_at hl 0 rfl) ?_
  refine lv_iconst (v := 0) hx hb dX10_isOver_1 (by decide) ?_
  refine t_puti (x := 0) cf_11 hx hb hts hown hK hT hS h_a (k := 6) rfl (show 0 ≤ (0 : Int32).toInt ∧ (0 : Int32).toInt ≤ 1600 from by decide) fl_X10_128 (fun _ h9 => h9) rfl rfl rfl dX10_isOver_2 (fun H locs G_1 eG_1 hT hS => ?_)
  have hF := hF.wI eG_1 h_a rfl
  have k_2 : (0 : Int32) = G_1.1 a 6 := by rw [eG_1, wI_at]
  refine lv_aload_n hx hb dX10_isOver_5 rfl (lv_at hl 0 rfl) ?_
  refine lv_aload_n hx hb dX10_isOver_6 rfl (lv_at hl 0 rfl) ?_
  refine t_geti cf_11 hx hb hts hown hK hT h_a (k := 12) rfl fl_X10_163 (fun _ h9 => h9) dX10_isOver_7 (fun z_3 ez_3 rz_3 => ?_)
  have ez_3 : z_3 = G_1.1 a 12 := ez_3
  refine t_puti (x := z_3) cf_11 hx hb hts hown hK hT hS h_a (k := 14) rfl trivial fl_X10_190 (fun _ h9 => h9) rfl rfl rfl dX10_isOver_10 (fun H locs G_4 eG_4 hT hS => ?_)
  have hF := hF.wI eG_4 h_a rfl
  have k_5 : 0 = G_4.1 a 6 := by rw [eG_4, wI_ne (Or.inr (by decide))]; exact k_2
  have k_6 : z_3 = G_4.1 a 12 := by rw [eG_4, wI_ne (Or.inr (by decide))]; exact ez_3
  refine lv_aload_n hx hb dX10_isOver_13 rfl (lv_at hl 0 rfl) ?_
  refine lv_aload_n hx hb dX10_isOver_14 rfl (lv_at hl 0 rfl) ?_
  refine t_geti cf_11 hx hb hts hown hK hT h_a (k := 12) rfl fl_X10_163 (fun _ h9 => h9) dX10_isOver_15 (fun z_7 ez_7 rz_7 => ?_)
  have w_8 : z_3 = z_7 := k_6.trans ez_7.symm
  subst w_8
  refine lv_if_ne (tgt := 25) hx hb dX10_isOver_18 (by decide) (fun c_9 => ?_) (fun c_9 => ?_)
  · skip
    have tc_9 : ¬ z_3.toInt = 0 := fun h => c_9 ((fa_eq _ _).mpr h)
    refine lv_aload_n hx hb dX10_isOver_25 rfl (lv_at hl 0 rfl) ?_
    refine t_geti cf_11 hx hb hts hown hK hT h_a (k := 13) rfl fl_X10_166 (fun _ h9 => h9) dX10_isOver_26 (fun z_10 ez_10 rz_10 => ?_)
    have ez_10 : z_10 = G_4.1 a 13 := ez_10
    refine t_puti (x := z_10) cf_11 hx hb hts hown hK hT hS h_a (k := 15) rfl trivial fl_X10_27 (fun _ h9 => h9) rfl rfl rfl dX10_isOver_29 (fun H locs G_11 eG_11 hT hS => ?_)
    have hF := hF.wI eG_11 h_a rfl
    have k_12 : 0 = G_11.1 a 6 := by rw [eG_11, wI_ne (Or.inr (by decide))]; exact k_5
    have k_13 : z_3 = G_11.1 a 12 := by rw [eG_11, wI_ne (Or.inr (by decide))]; exact k_6
    exact ret_v hx hb hr hlocks ⟨⟨hS.1, hS.2.1⟩, G_11, hF, ⟨rfl, trivial⟩, hT⟩ hS.2.2 (Nat.le_of_ble_eq_true rfl) (Nat.le_of_ble_eq_true rfl) dX10_isOver_32
  · skip
    have tc_9 : z_3.toInt = 0 := (fa_eq _ _).mp c_9
    refine lv_iconst (v := (-1)) hx hb dX10_isOver_21 (by decide) ?_
    refine lv_goto (tgt := 29) hx hb dX10_isOver_22 (by decide) ?_
    refine t_puti (x := (-1)) cf_11 hx hb hts hown hK hT hS h_a (k := 15) rfl trivial fl_X10_27 (fun _ h9 => h9) rfl rfl rfl dX10_isOver_29 (fun H locs G_14 eG_14 hT hS => ?_)
    have hF := hF.wI eG_14 h_a rfl
    have k_15 : 0 = G_14.1 a 6 := by rw [eG_14, wI_ne (Or.inr (by decide))]; exact k_5
    have k_16 : z_3 = G_14.1 a 12 := by rw [eG_14, wI_ne (Or.inr (by decide))]; exact k_6
    exact ret_v hx hb hr hlocks ⟨⟨hS.1, hS.2.1⟩, G_14, hF, ⟨rfl, trivial⟩, hT⟩ hS.2.2 (Nat.le_of_ble_eq_true rfl) (Nat.le_of_ble_eq_true rfl) dX10_isOver_32
