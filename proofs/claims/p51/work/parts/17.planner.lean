theorem dX3_weigh_0 : decode cX3_weigh 0 = .ok (.aload_n 0, 1) := by decide +kernel
theorem dX3_weigh_1 : decode cX3_weigh 1 = .ok (.getfield 25, 3) := by decide +kernel
theorem dX3_weigh_4 : decode cX3_weigh 4 = .ok (.aload_n 0, 1) := by decide +kernel
theorem dX3_weigh_5 : decode cX3_weigh 5 = .ok (.getfield 33, 3) := by decide +kernel
theorem dX3_weigh_8 : decode cX3_weigh 8 = .ok (.aload_n 0, 1) := by decide +kernel
theorem dX3_weigh_9 : decode cX3_weigh 9 = .ok (.getfield 36, 3) := by decide +kernel
theorem dX3_weigh_12 : decode cX3_weigh 12 = .ok (.invokevirtual 52, 3) := by decide +kernel
theorem dX3_weigh_15 : decode cX3_weigh 15 = .ok (.ifCond .ne 4, 3) := by decide +kernel
theorem dX3_weigh_19 : decode cX3_weigh 19 = .ok (.aload_n 0, 1) := by decide +kernel
theorem dX3_weigh_20 : decode cX3_weigh 20 = .ok (.getfield 25, 3) := by decide +kernel
theorem dX3_weigh_23 : decode cX3_weigh 23 = .ok (.getfield 96, 3) := by decide +kernel
theorem dX3_weigh_26 : decode cX3_weigh 26 = .ok (.aload_n 0, 1) := by decide +kernel
theorem dX3_weigh_27 : decode cX3_weigh 27 = .ok (.getfield 33, 3) := by decide +kernel
theorem dX3_weigh_30 : decode cX3_weigh 30 = .ok (.iaload, 1) := by decide +kernel
theorem dX3_weigh_31 : decode cX3_weigh 31 = .ok (.istore_n 2, 1) := by decide +kernel
theorem dX3_weigh_32 : decode cX3_weigh 32 = .ok (.aload_n 0, 1) := by decide +kernel
theorem dX3_weigh_33 : decode cX3_weigh 33 = .ok (.getfield 25, 3) := by decide +kernel
theorem dX3_weigh_36 : decode cX3_weigh 36 = .ok (.aload_n 0, 1) := by decide +kernel
theorem dX3_weigh_37 : decode cX3_weigh 37 = .ok (.getfield 33, 3) := by decide +kernel
theorem dX3_weigh_40 : decode cX3_weigh 40 = .ok (.aload_n 0, 1) := by decide +kernel
theorem dX3_weigh_41 : decode cX3_weigh 41 = .ok (.getfield 36, 3) := by decide +kernel
theorem dX3_weigh_44 : decode cX3_weigh 44 = .ok (.iload_n 1, 1) := by decide +kernel
theorem dX3_weigh_45 : decode cX3_weigh 45 = .ok (.invokevirtual 56, 3) := by decide +kernel
theorem dX3_weigh_48 : decode cX3_weigh 48 = .ok (.istore_n 3, 1) := by decide +kernel
theorem dX3_weigh_49 : decode cX3_weigh 49 = .ok (.aload_n 0, 1) := by decide +kernel
theorem dX3_weigh_50 : decode cX3_weigh 50 = .ok (.getfield 25, 3) := by decide +kernel
theorem dX3_weigh_53 : decode cX3_weigh 53 = .ok (.iload_n 1, 1) := by decide +kernel
theorem dX3_weigh_54 : decode cX3_weigh 54 = .ok (.iconst 1, 1) := by decide +kernel
theorem dX3_weigh_55 : decode cX3_weigh 55 = .ok (.invokevirtual 99, 3) := by decide +kernel
theorem dX3_weigh_58 : decode cX3_weigh 58 = .ok (.istore 4, 2) := by decide +kernel
theorem dX3_weigh_60 : decode cX3_weigh 60 = .ok (.aload_n 0, 1) := by decide +kernel
theorem dX3_weigh_61 : decode cX3_weigh 61 = .ok (.getfield 25, 3) := by decide +kernel
theorem dX3_weigh_64 : decode cX3_weigh 64 = .ok (.iload_n 1, 1) := by decide +kernel
theorem dX3_weigh_65 : decode cX3_weigh 65 = .ok (.iconst 0, 1) := by decide +kernel
theorem dX3_weigh_66 : decode cX3_weigh 66 = .ok (.invokevirtual 99, 3) := by decide +kernel
theorem dX3_weigh_69 : decode cX3_weigh 69 = .ok (.istore 5, 2) := by decide +kernel
theorem dX3_weigh_71 : decode cX3_weigh 71 = .ok (.aload_n 0, 1) := by decide +kernel
theorem dX3_weigh_72 : decode cX3_weigh 72 = .ok (.getfield 45, 3) := by decide +kernel
theorem dX3_weigh_75 : decode cX3_weigh 75 = .ok (.istore 6, 2) := by decide +kernel
theorem dX3_weigh_77 : decode cX3_weigh 77 = .ok (.iload 6, 2) := by decide +kernel
theorem dX3_weigh_79 : decode cX3_weigh 79 = .ok (.aload_n 0, 1) := by decide +kernel
theorem dX3_weigh_80 : decode cX3_weigh 80 = .ok (.getfield 49, 3) := by decide +kernel
theorem dX3_weigh_83 : decode cX3_weigh 83 = .ok (.if_icmp .gt 164, 3) := by decide +kernel
theorem dX3_weigh_247 : decode cX3_weigh 247 = .ok (.return_, 1) := by decide +kernel
theorem dX3_weigh_86 : decode cX3_weigh 86 = .ok (.iconst 0, 1) := by decide +kernel
theorem dX3_weigh_87 : decode cX3_weigh 87 = .ok (.iload_n 3, 1) := by decide +kernel
theorem dX3_weigh_88 : decode cX3_weigh 88 = .ok (.iload 6, 2) := by decide +kernel
theorem dX3_weigh_90 : decode cX3_weigh 90 = .ok (.isub, 1) := by decide +kernel
theorem dX3_weigh_91 : decode cX3_weigh 91 = .ok (.invokestatic 39, 3) := by decide +kernel
theorem dX3_weigh_94 : decode cX3_weigh 94 = .ok (.i2l, 1) := by decide +kernel
theorem dX3_weigh_95 : decode cX3_weigh 95 = .ok (.lstore 7, 2) := by decide +kernel
theorem dX3_weigh_97 : decode cX3_weigh 97 = .ok (.iconst 0, 1) := by decide +kernel
theorem dX3_weigh_98 : decode cX3_weigh 98 = .ok (.iload 6, 2) := by decide +kernel
theorem dX3_weigh_100 : decode cX3_weigh 100 = .ok (.iload_n 3, 1) := by decide +kernel
theorem dX3_weigh_101 : decode cX3_weigh 101 = .ok (.isub, 1) := by decide +kernel
theorem dX3_weigh_102 : decode cX3_weigh 102 = .ok (.invokestatic 39, 3) := by decide +kernel
theorem dX3_weigh_105 : decode cX3_weigh 105 = .ok (.i2l, 1) := by decide +kernel
theorem dX3_weigh_106 : decode cX3_weigh 106 = .ok (.lstore 9, 2) := by decide +kernel
theorem dX3_weigh_108 : decode cX3_weigh 108 = .ok (.ldc2_w 60, 3) := by decide +kernel
theorem dX3_weigh_111 : decode cX3_weigh 111 = .ok (.aload_n 0, 1) := by decide +kernel
theorem dX3_weigh_112 : decode cX3_weigh 112 = .ok (.getfield 25, 3) := by decide +kernel
theorem dX3_weigh_115 : decode cX3_weigh 115 = .ok (.getfield 103, 3) := by decide +kernel
theorem dX3_weigh_118 : decode cX3_weigh 118 = .ok (.aload_n 0, 1) := by decide +kernel
theorem dX3_weigh_119 : decode cX3_weigh 119 = .ok (.getfield 36, 3) := by decide +kernel
theorem dX3_weigh_122 : decode cX3_weigh 122 = .ok (.iaload, 1) := by decide +kernel
theorem dX3_weigh_123 : decode cX3_weigh 123 = .ok (.i2l, 1) := by decide +kernel
theorem dX3_weigh_124 : decode cX3_weigh 124 = .ok (.lload 7, 2) := by decide +kernel
theorem dX3_weigh_126 : decode cX3_weigh 126 = .ok (.lmul, 1) := by decide +kernel
theorem dX3_weigh_127 : decode cX3_weigh 127 = .ok (.aload_n 0, 1) := by decide +kernel
theorem dX3_weigh_128 : decode cX3_weigh 128 = .ok (.getfield 25, 3) := by decide +kernel
theorem dX3_weigh_131 : decode cX3_weigh 131 = .ok (.getfield 71, 3) := by decide +kernel
theorem dX3_weigh_134 : decode cX3_weigh 134 = .ok (.aload_n 0, 1) := by decide +kernel
theorem dX3_weigh_135 : decode cX3_weigh 135 = .ok (.getfield 36, 3) := by decide +kernel
theorem dX3_weigh_138 : decode cX3_weigh 138 = .ok (.iaload, 1) := by decide +kernel
theorem dX3_weigh_139 : decode cX3_weigh 139 = .ok (.i2l, 1) := by decide +kernel
theorem dX3_weigh_140 : decode cX3_weigh 140 = .ok (.lload 9, 2) := by decide +kernel
theorem dX3_weigh_142 : decode cX3_weigh 142 = .ok (.lmul, 1) := by decide +kernel
theorem dX3_weigh_143 : decode cX3_weigh 143 = .ok (.ladd, 1) := by decide +kernel
theorem dX3_weigh_144 : decode cX3_weigh 144 = .ok (.lmul, 1) := by decide +kernel
theorem dX3_weigh_145 : decode cX3_weigh 145 = .ok (.lstore 11, 2) := by decide +kernel
theorem dX3_weigh_147 : decode cX3_weigh 147 = .ok (.iload_n 2, 1) := by decide +kernel
theorem dX3_weigh_148 : decode cX3_weigh 148 = .ok (.i2l, 1) := by decide +kernel
theorem dX3_weigh_149 : decode cX3_weigh 149 = .ok (.lload 11, 2) := by decide +kernel
theorem dX3_weigh_151 : decode cX3_weigh 151 = .ok (.lmul, 1) := by decide +kernel
theorem dX3_weigh_152 : decode cX3_weigh 152 = .ok (.bipush 100, 2) := by decide +kernel
theorem dX3_weigh_154 : decode cX3_weigh 154 = .ok (.iload_n 2, 1) := by decide +kernel
theorem dX3_weigh_155 : decode cX3_weigh 155 = .ok (.isub, 1) := by decide +kernel
theorem dX3_weigh_156 : decode cX3_weigh 156 = .ok (.i2l, 1) := by decide +kernel
theorem dX3_weigh_157 : decode cX3_weigh 157 = .ok (.aload_n 0, 1) := by decide +kernel
theorem dX3_weigh_158 : decode cX3_weigh 158 = .ok (.getfield 9, 3) := by decide +kernel
theorem dX3_weigh_161 : decode cX3_weigh 161 = .ok (.iload 6, 2) := by decide +kernel
theorem dX3_weigh_163 : decode cX3_weigh 163 = .ok (.laload, 1) := by decide +kernel
theorem dX3_weigh_164 : decode cX3_weigh 164 = .ok (.lmul, 1) := by decide +kernel
theorem dX3_weigh_165 : decode cX3_weigh 165 = .ok (.ladd, 1) := by decide +kernel
theorem dX3_weigh_166 : decode cX3_weigh 166 = .ok (.ldc2_w 106, 3) := by decide +kernel
theorem dX3_weigh_169 : decode cX3_weigh 169 = .ok (.ldiv, 1) := by decide +kernel
theorem dX3_weigh_170 : decode cX3_weigh 170 = .ok (.lstore 13, 2) := by decide +kernel
theorem dX3_weigh_172 : decode cX3_weigh 172 = .ok (.aload_n 0, 1) := by decide +kernel
theorem dX3_weigh_173 : decode cX3_weigh 173 = .ok (.getfield 15, 3) := by decide +kernel
theorem dX3_weigh_176 : decode cX3_weigh 176 = .ok (.iload 6, 2) := by decide +kernel
theorem dX3_weigh_178 : decode cX3_weigh 178 = .ok (.laload, 1) := by decide +kernel
theorem dX3_weigh_179 : decode cX3_weigh 179 = .ok (.lstore 15, 2) := by decide +kernel
theorem dX3_weigh_181 : decode cX3_weigh 181 = .ok (.aload_n 0, 1) := by decide +kernel
theorem dX3_weigh_182 : decode cX3_weigh 182 = .ok (.getfield 9, 3) := by decide +kernel
theorem dX3_weigh_185 : decode cX3_weigh 185 = .ok (.iload 6, 2) := by decide +kernel
theorem dX3_weigh_187 : decode cX3_weigh 187 = .ok (.iload 4, 2) := by decide +kernel
theorem dX3_weigh_189 : decode cX3_weigh 189 = .ok (.i2l, 1) := by decide +kernel
theorem dX3_weigh_190 : decode cX3_weigh 190 = .ok (.lload 13, 2) := by decide +kernel
theorem dX3_weigh_192 : decode cX3_weigh 192 = .ok (.lmul, 1) := by decide +kernel
theorem dX3_weigh_193 : decode cX3_weigh 193 = .ok (.bipush 100, 2) := by decide +kernel
theorem dX3_weigh_195 : decode cX3_weigh 195 = .ok (.iload 4, 2) := by decide +kernel
theorem dX3_weigh_197 : decode cX3_weigh 197 = .ok (.isub, 1) := by decide +kernel
theorem dX3_weigh_198 : decode cX3_weigh 198 = .ok (.i2l, 1) := by decide +kernel
theorem dX3_weigh_199 : decode cX3_weigh 199 = .ok (.lload 15, 2) := by decide +kernel
theorem dX3_weigh_201 : decode cX3_weigh 201 = .ok (.lmul, 1) := by decide +kernel
theorem dX3_weigh_202 : decode cX3_weigh 202 = .ok (.ladd, 1) := by decide +kernel
theorem dX3_weigh_203 : decode cX3_weigh 203 = .ok (.ldc2_w 106, 3) := by decide +kernel
theorem dX3_weigh_206 : decode cX3_weigh 206 = .ok (.ldiv, 1) := by decide +kernel
theorem dX3_weigh_207 : decode cX3_weigh 207 = .ok (.lastore, 1) := by decide +kernel
theorem dX3_weigh_208 : decode cX3_weigh 208 = .ok (.aload_n 0, 1) := by decide +kernel
theorem dX3_weigh_209 : decode cX3_weigh 209 = .ok (.getfield 15, 3) := by decide +kernel
theorem dX3_weigh_212 : decode cX3_weigh 212 = .ok (.iload 6, 2) := by decide +kernel
theorem dX3_weigh_214 : decode cX3_weigh 214 = .ok (.iload 5, 2) := by decide +kernel
theorem dX3_weigh_216 : decode cX3_weigh 216 = .ok (.i2l, 1) := by decide +kernel
theorem dX3_weigh_217 : decode cX3_weigh 217 = .ok (.lload 13, 2) := by decide +kernel
theorem dX3_weigh_219 : decode cX3_weigh 219 = .ok (.lmul, 1) := by decide +kernel
theorem dX3_weigh_220 : decode cX3_weigh 220 = .ok (.bipush 100, 2) := by decide +kernel
theorem dX3_weigh_222 : decode cX3_weigh 222 = .ok (.iload 5, 2) := by decide +kernel
theorem dX3_weigh_224 : decode cX3_weigh 224 = .ok (.isub, 1) := by decide +kernel
theorem dX3_weigh_225 : decode cX3_weigh 225 = .ok (.i2l, 1) := by decide +kernel
theorem dX3_weigh_226 : decode cX3_weigh 226 = .ok (.lload 15, 2) := by decide +kernel
theorem dX3_weigh_228 : decode cX3_weigh 228 = .ok (.lmul, 1) := by decide +kernel
theorem dX3_weigh_229 : decode cX3_weigh 229 = .ok (.ladd, 1) := by decide +kernel
theorem dX3_weigh_230 : decode cX3_weigh 230 = .ok (.ldc2_w 106, 3) := by decide +kernel
theorem dX3_weigh_233 : decode cX3_weigh 233 = .ok (.ldiv, 1) := by decide +kernel
theorem dX3_weigh_234 : decode cX3_weigh 234 = .ok (.lastore, 1) := by decide +kernel
theorem dX3_weigh_235 : decode cX3_weigh 235 = .ok (.iload 6, 2) := by decide +kernel
theorem dX3_weigh_237 : decode cX3_weigh 237 = .ok (.aload_n 0, 1) := by decide +kernel
theorem dX3_weigh_238 : decode cX3_weigh 238 = .ok (.getfield 29, 3) := by decide +kernel
theorem dX3_weigh_241 : decode cX3_weigh 241 = .ok (.iadd, 1) := by decide +kernel
theorem dX3_weigh_242 : decode cX3_weigh 242 = .ok (.istore 6, 2) := by decide +kernel
theorem dX3_weigh_244 : decode cX3_weigh 244 = .ok (.goto (-167), 3) := by decide +kernel
theorem dX3_weigh_18 : decode cX3_weigh 18 = .ok (.return_, 1) := by decide +kernel
theorem dX3_fewestOf_0 : decode cX3_fewestOf 0 = .ok (.iconst 0, 1) := by decide +kernel
theorem dX3_fewestOf_1 : decode cX3_fewestOf 1 = .ok (.istore_n 3, 1) := by decide +kernel
theorem dX3_fewestOf_2 : decode cX3_fewestOf 2 = .ok (.iload_n 2, 1) := by decide +kernel
theorem dX3_fewestOf_3 : decode cX3_fewestOf 3 = .ok (.ifCond .lt 17, 3) := by decide +kernel
theorem dX3_fewestOf_6 : decode cX3_fewestOf 6 = .ok (.iload_n 2, 1) := by decide +kernel
theorem dX3_fewestOf_7 : decode cX3_fewestOf 7 = .ok (.aload_n 0, 1) := by decide +kernel
theorem dX3_fewestOf_8 : decode cX3_fewestOf 8 = .ok (.getfield 49, 3) := by decide +kernel
theorem dX3_fewestOf_11 : decode cX3_fewestOf 11 = .ok (.if_icmp .gt 9, 3) := by decide +kernel
theorem dX3_fewestOf_20 : decode cX3_fewestOf 20 = .ok (.iload_n 3, 1) := by decide +kernel
theorem dX3_fewestOf_21 : decode cX3_fewestOf 21 = .ok (.ireturn, 1) := by decide +kernel
theorem dX3_fewestOf_14 : decode cX3_fewestOf 14 = .ok (.iload_n 2, 1) := by decide +kernel
theorem dX3_fewestOf_15 : decode cX3_fewestOf 15 = .ok (.aload_n 1, 1) := by decide +kernel
theorem dX3_fewestOf_16 : decode cX3_fewestOf 16 = .ok (.arraylength, 1) := by decide +kernel
theorem dX3_fewestOf_17 : decode cX3_fewestOf 17 = .ok (.if_icmp .lt 5, 3) := by decide +kernel
theorem dX3_fewestOf_22 : decode cX3_fewestOf 22 = .ok (.aload_n 1, 1) := by decide +kernel
theorem dX3_fewestOf_23 : decode cX3_fewestOf 23 = .ok (.iload_n 2, 1) := by decide +kernel
theorem dX3_fewestOf_24 : decode cX3_fewestOf 24 = .ok (.laload, 1) := by decide +kernel
theorem dX3_fewestOf_25 : decode cX3_fewestOf 25 = .ok (.lstore 4, 2) := by decide +kernel
theorem dX3_fewestOf_27 : decode cX3_fewestOf 27 = .ok (.iconst 1, 1) := by decide +kernel
theorem dX3_fewestOf_28 : decode cX3_fewestOf 28 = .ok (.istore 6, 2) := by decide +kernel
theorem dX3_fewestOf_30 : decode cX3_fewestOf 30 = .ok (.iload 6, 2) := by decide +kernel
theorem dX3_fewestOf_32 : decode cX3_fewestOf 32 = .ok (.aload_n 0, 1) := by decide +kernel
theorem dX3_fewestOf_33 : decode cX3_fewestOf 33 = .ok (.getfield 25, 3) := by decide +kernel
theorem dX3_fewestOf_36 : decode cX3_fewestOf 36 = .ok (.getfield 108, 3) := by decide +kernel
theorem dX3_fewestOf_39 : decode cX3_fewestOf 39 = .ok (.if_icmp .gt 73, 3) := by decide +kernel
theorem dX3_fewestOf_112 : decode cX3_fewestOf 112 = .ok (.iload_n 3, 1) := by decide +kernel
theorem dX3_fewestOf_113 : decode cX3_fewestOf 113 = .ok (.ireturn, 1) := by decide +kernel
theorem dX3_fewestOf_42 : decode cX3_fewestOf 42 = .ok (.iload_n 2, 1) := by decide +kernel
theorem dX3_fewestOf_43 : decode cX3_fewestOf 43 = .ok (.iload 6, 2) := by decide +kernel
theorem dX3_fewestOf_45 : decode cX3_fewestOf 45 = .ok (.aload_n 0, 1) := by decide +kernel
theorem dX3_fewestOf_46 : decode cX3_fewestOf 46 = .ok (.getfield 29, 3) := by decide +kernel
theorem dX3_fewestOf_49 : decode cX3_fewestOf 49 = .ok (.imul, 1) := by decide +kernel
theorem dX3_fewestOf_50 : decode cX3_fewestOf 50 = .ok (.iadd, 1) := by decide +kernel
theorem dX3_fewestOf_51 : decode cX3_fewestOf 51 = .ok (.istore 7, 2) := by decide +kernel
theorem dX3_fewestOf_53 : decode cX3_fewestOf 53 = .ok (.iload 7, 2) := by decide +kernel
theorem dX3_fewestOf_55 : decode cX3_fewestOf 55 = .ok (.aload_n 0, 1) := by decide +kernel
theorem dX3_fewestOf_56 : decode cX3_fewestOf 56 = .ok (.getfield 49, 3) := by decide +kernel
theorem dX3_fewestOf_59 : decode cX3_fewestOf 59 = .ok (.if_icmp .gt 47, 3) := by decide +kernel
theorem dX3_fewestOf_106 : decode cX3_fewestOf 106 = .ok (.iinc 6 1, 3) := by decide +kernel
theorem dX3_fewestOf_109 : decode cX3_fewestOf 109 = .ok (.goto (-79), 3) := by decide +kernel
theorem dX3_fewestOf_62 : decode cX3_fewestOf 62 = .ok (.iload 7, 2) := by decide +kernel
theorem dX3_fewestOf_64 : decode cX3_fewestOf 64 = .ok (.aload_n 1, 1) := by decide +kernel
theorem dX3_fewestOf_65 : decode cX3_fewestOf 65 = .ok (.arraylength, 1) := by decide +kernel
theorem dX3_fewestOf_66 : decode cX3_fewestOf 66 = .ok (.if_icmp .ge 40, 3) := by decide +kernel
theorem dX3_fewestOf_69 : decode cX3_fewestOf 69 = .ok (.iload 6, 2) := by decide +kernel
theorem dX3_fewestOf_71 : decode cX3_fewestOf 71 = .ok (.i2l, 1) := by decide +kernel
theorem dX3_fewestOf_72 : decode cX3_fewestOf 72 = .ok (.aload_n 0, 1) := by decide +kernel
theorem dX3_fewestOf_73 : decode cX3_fewestOf 73 = .ok (.getfield 68, 3) := by decide +kernel
theorem dX3_fewestOf_76 : decode cX3_fewestOf 76 = .ok (.lmul, 1) := by decide +kernel
theorem dX3_fewestOf_77 : decode cX3_fewestOf 77 = .ok (.aload_n 1, 1) := by decide +kernel
theorem dX3_fewestOf_78 : decode cX3_fewestOf 78 = .ok (.iload 7, 2) := by decide +kernel
theorem dX3_fewestOf_80 : decode cX3_fewestOf 80 = .ok (.laload, 1) := by decide +kernel
theorem dX3_fewestOf_81 : decode cX3_fewestOf 81 = .ok (.ladd, 1) := by decide +kernel
theorem dX3_fewestOf_82 : decode cX3_fewestOf 82 = .ok (.lload 4, 2) := by decide +kernel
theorem dX3_fewestOf_84 : decode cX3_fewestOf 84 = .ok (.lcmp, 1) := by decide +kernel
theorem dX3_fewestOf_85 : decode cX3_fewestOf 85 = .ok (.ifCond .ge 21, 3) := by decide +kernel
theorem dX3_fewestOf_88 : decode cX3_fewestOf 88 = .ok (.iload 6, 2) := by decide +kernel
theorem dX3_fewestOf_90 : decode cX3_fewestOf 90 = .ok (.i2l, 1) := by decide +kernel
theorem dX3_fewestOf_91 : decode cX3_fewestOf 91 = .ok (.aload_n 0, 1) := by decide +kernel
theorem dX3_fewestOf_92 : decode cX3_fewestOf 92 = .ok (.getfield 68, 3) := by decide +kernel
theorem dX3_fewestOf_95 : decode cX3_fewestOf 95 = .ok (.lmul, 1) := by decide +kernel
theorem dX3_fewestOf_96 : decode cX3_fewestOf 96 = .ok (.aload_n 1, 1) := by decide +kernel
theorem dX3_fewestOf_97 : decode cX3_fewestOf 97 = .ok (.iload 7, 2) := by decide +kernel
theorem dX3_fewestOf_99 : decode cX3_fewestOf 99 = .ok (.laload, 1) := by decide +kernel
theorem dX3_fewestOf_100 : decode cX3_fewestOf 100 = .ok (.ladd, 1) := by decide +kernel
theorem dX3_fewestOf_101 : decode cX3_fewestOf 101 = .ok (.lstore 4, 2) := by decide +kernel
theorem dX3_fewestOf_103 : decode cX3_fewestOf 103 = .ok (.iload 6, 2) := by decide +kernel
theorem dX3_fewestOf_105 : decode cX3_fewestOf 105 = .ok (.istore_n 3, 1) := by decide +kernel
theorem dX3_settle_0 : decode cX3_settle 0 = .ok (.aload_n 0, 1) := by decide +kernel
theorem dX3_settle_1 : decode cX3_settle 1 = .ok (.iload_n 1, 1) := by decide +kernel
theorem dX3_settle_2 : decode cX3_settle 2 = .ok (.invokevirtual 89, 3) := by decide +kernel
theorem dX3_settle_5 : decode cX3_settle 5 = .ok (.aload_n 0, 1) := by decide +kernel
theorem dX3_settle_6 : decode cX3_settle 6 = .ok (.getfield 45, 3) := by decide +kernel
theorem dX3_settle_9 : decode cX3_settle 9 = .ok (.istore_n 2, 1) := by decide +kernel
theorem dX3_settle_10 : decode cX3_settle 10 = .ok (.iload_n 2, 1) := by decide +kernel
theorem dX3_settle_11 : decode cX3_settle 11 = .ok (.aload_n 0, 1) := by decide +kernel
theorem dX3_settle_12 : decode cX3_settle 12 = .ok (.getfield 49, 3) := by decide +kernel
theorem dX3_settle_15 : decode cX3_settle 15 = .ok (.if_icmp .gt 124, 3) := by decide +kernel
theorem dX3_settle_139 : decode cX3_settle 139 = .ok (.return_, 1) := by decide +kernel
theorem dX3_settle_18 : decode cX3_settle 18 = .ok (.aload_n 0, 1) := by decide +kernel
theorem dX3_settle_19 : decode cX3_settle 19 = .ok (.aload_n 0, 1) := by decide +kernel
theorem dX3_settle_20 : decode cX3_settle 20 = .ok (.getfield 15, 3) := by decide +kernel
theorem dX3_settle_23 : decode cX3_settle 23 = .ok (.iload_n 2, 1) := by decide +kernel
theorem dX3_settle_24 : decode cX3_settle 24 = .ok (.invokevirtual 92, 3) := by decide +kernel
theorem dX3_settle_27 : decode cX3_settle 27 = .ok (.istore_n 3, 1) := by decide +kernel
theorem dX3_settle_28 : decode cX3_settle 28 = .ok (.aload_n 0, 1) := by decide +kernel
theorem dX3_settle_29 : decode cX3_settle 29 = .ok (.getfield 18, 3) := by decide +kernel
theorem dX3_settle_32 : decode cX3_settle 32 = .ok (.iload_n 2, 1) := by decide +kernel
theorem dX3_settle_33 : decode cX3_settle 33 = .ok (.iload_n 3, 1) := by decide +kernel
theorem dX3_settle_34 : decode cX3_settle 34 = .ok (.aload_n 0, 1) := by decide +kernel
theorem dX3_settle_35 : decode cX3_settle 35 = .ok (.getfield 29, 3) := by decide +kernel
theorem dX3_settle_38 : decode cX3_settle 38 = .ok (.imul, 1) := by decide +kernel
theorem dX3_settle_39 : decode cX3_settle 39 = .ok (.iadd, 1) := by decide +kernel
theorem dX3_settle_40 : decode cX3_settle 40 = .ok (.iaload, 1) := by decide +kernel
theorem dX3_settle_41 : decode cX3_settle 41 = .ok (.istore 4, 2) := by decide +kernel
theorem dX3_settle_43 : decode cX3_settle 43 = .ok (.aload_n 0, 1) := by decide +kernel
theorem dX3_settle_44 : decode cX3_settle 44 = .ok (.getfield 18, 3) := by decide +kernel
theorem dX3_settle_47 : decode cX3_settle 47 = .ok (.iload_n 2, 1) := by decide +kernel
theorem dX3_settle_48 : decode cX3_settle 48 = .ok (.iload 4, 2) := by decide +kernel
theorem dX3_settle_50 : decode cX3_settle 50 = .ok (.iconst (-1), 1) := by decide +kernel
theorem dX3_settle_51 : decode cX3_settle 51 = .ok (.if_icmp .ne 11, 3) := by decide +kernel
theorem dX3_settle_62 : decode cX3_settle 62 = .ok (.iload 4, 2) := by decide +kernel
theorem dX3_settle_64 : decode cX3_settle 64 = .ok (.iastore, 1) := by decide +kernel
theorem dX3_settle_65 : decode cX3_settle 65 = .ok (.aload_n 0, 1) := by decide +kernel
theorem dX3_settle_66 : decode cX3_settle 66 = .ok (.getfield 15, 3) := by decide +kernel
theorem dX3_settle_69 : decode cX3_settle 69 = .ok (.iload_n 2, 1) := by decide +kernel
theorem dX3_settle_70 : decode cX3_settle 70 = .ok (.iload_n 3, 1) := by decide +kernel
theorem dX3_settle_71 : decode cX3_settle 71 = .ok (.i2l, 1) := by decide +kernel
theorem dX3_settle_72 : decode cX3_settle 72 = .ok (.aload_n 0, 1) := by decide +kernel
theorem dX3_settle_73 : decode cX3_settle 73 = .ok (.getfield 68, 3) := by decide +kernel
theorem dX3_settle_76 : decode cX3_settle 76 = .ok (.lmul, 1) := by decide +kernel
theorem dX3_settle_77 : decode cX3_settle 77 = .ok (.aload_n 0, 1) := by decide +kernel
theorem dX3_settle_78 : decode cX3_settle 78 = .ok (.getfield 15, 3) := by decide +kernel
theorem dX3_settle_81 : decode cX3_settle 81 = .ok (.iload_n 2, 1) := by decide +kernel
theorem dX3_settle_82 : decode cX3_settle 82 = .ok (.iload_n 3, 1) := by decide +kernel
theorem dX3_settle_83 : decode cX3_settle 83 = .ok (.aload_n 0, 1) := by decide +kernel
theorem dX3_settle_84 : decode cX3_settle 84 = .ok (.getfield 29, 3) := by decide +kernel
theorem dX3_settle_87 : decode cX3_settle 87 = .ok (.imul, 1) := by decide +kernel
theorem dX3_settle_88 : decode cX3_settle 88 = .ok (.iadd, 1) := by decide +kernel
theorem dX3_settle_89 : decode cX3_settle 89 = .ok (.laload, 1) := by decide +kernel
theorem dX3_settle_90 : decode cX3_settle 90 = .ok (.ladd, 1) := by decide +kernel
theorem dX3_settle_91 : decode cX3_settle 91 = .ok (.lastore, 1) := by decide +kernel
theorem dX3_settle_92 : decode cX3_settle 92 = .ok (.aload_n 0, 1) := by decide +kernel
theorem dX3_settle_93 : decode cX3_settle 93 = .ok (.aload_n 0, 1) := by decide +kernel
theorem dX3_settle_94 : decode cX3_settle 94 = .ok (.getfield 9, 3) := by decide +kernel
theorem dX3_settle_97 : decode cX3_settle 97 = .ok (.iload_n 2, 1) := by decide +kernel
theorem dX3_settle_98 : decode cX3_settle 98 = .ok (.invokevirtual 92, 3) := by decide +kernel
theorem dX3_settle_101 : decode cX3_settle 101 = .ok (.istore_n 3, 1) := by decide +kernel
theorem dX3_settle_102 : decode cX3_settle 102 = .ok (.aload_n 0, 1) := by decide +kernel
theorem dX3_settle_103 : decode cX3_settle 103 = .ok (.getfield 9, 3) := by decide +kernel
theorem dX3_settle_106 : decode cX3_settle 106 = .ok (.iload_n 2, 1) := by decide +kernel
theorem dX3_settle_107 : decode cX3_settle 107 = .ok (.iload_n 3, 1) := by decide +kernel
theorem dX3_settle_108 : decode cX3_settle 108 = .ok (.i2l, 1) := by decide +kernel
theorem dX3_settle_109 : decode cX3_settle 109 = .ok (.aload_n 0, 1) := by decide +kernel
theorem dX3_settle_110 : decode cX3_settle 110 = .ok (.getfield 68, 3) := by decide +kernel
theorem dX3_settle_113 : decode cX3_settle 113 = .ok (.lmul, 1) := by decide +kernel
theorem dX3_settle_114 : decode cX3_settle 114 = .ok (.aload_n 0, 1) := by decide +kernel
theorem dX3_settle_115 : decode cX3_settle 115 = .ok (.getfield 9, 3) := by decide +kernel
theorem dX3_settle_118 : decode cX3_settle 118 = .ok (.iload_n 2, 1) := by decide +kernel
theorem dX3_settle_119 : decode cX3_settle 119 = .ok (.iload_n 3, 1) := by decide +kernel
theorem dX3_settle_120 : decode cX3_settle 120 = .ok (.aload_n 0, 1) := by decide +kernel
theorem dX3_settle_121 : decode cX3_settle 121 = .ok (.getfield 29, 3) := by decide +kernel
theorem dX3_settle_124 : decode cX3_settle 124 = .ok (.imul, 1) := by decide +kernel
theorem dX3_settle_125 : decode cX3_settle 125 = .ok (.iadd, 1) := by decide +kernel
theorem dX3_settle_126 : decode cX3_settle 126 = .ok (.laload, 1) := by decide +kernel
theorem dX3_settle_127 : decode cX3_settle 127 = .ok (.ladd, 1) := by decide +kernel
theorem dX3_settle_128 : decode cX3_settle 128 = .ok (.lastore, 1) := by decide +kernel
theorem dX3_settle_129 : decode cX3_settle 129 = .ok (.iload_n 2, 1) := by decide +kernel
theorem dX3_settle_130 : decode cX3_settle 130 = .ok (.aload_n 0, 1) := by decide +kernel
theorem dX3_settle_131 : decode cX3_settle 131 = .ok (.getfield 29, 3) := by decide +kernel
theorem dX3_settle_134 : decode cX3_settle 134 = .ok (.iadd, 1) := by decide +kernel
theorem dX3_settle_135 : decode cX3_settle 135 = .ok (.istore_n 2, 1) := by decide +kernel
theorem dX3_settle_136 : decode cX3_settle 136 = .ok (.goto (-126), 3) := by decide +kernel
theorem dX3_settle_54 : decode cX3_settle 54 = .ok (.iload_n 3, 1) := by decide +kernel
theorem dX3_settle_55 : decode cX3_settle 55 = .ok (.ifCond .le 7, 3) := by decide +kernel
theorem dX3_settle_58 : decode cX3_settle 58 = .ok (.iload_n 1, 1) := by decide +kernel
theorem dX3_settle_59 : decode cX3_settle 59 = .ok (.goto 5, 3) := by decide +kernel
theorem dX3_begin_0 : decode cX3_begin 0 = .ok (.aload_n 0, 1) := by decide +kernel
theorem dX3_begin_1 : decode cX3_begin 1 = .ok (.aload_n 1, 1) := by decide +kernel
theorem dX3_begin_2 : decode cX3_begin 2 = .ok (.putfield 25, 3) := by decide +kernel
theorem dX3_begin_5 : decode cX3_begin 5 = .ok (.aload_n 0, 1) := by decide +kernel
theorem dX3_begin_6 : decode cX3_begin 6 = .ok (.iload_n 2, 1) := by decide +kernel
theorem dX3_begin_7 : decode cX3_begin 7 = .ok (.putfield 33, 3) := by decide +kernel
theorem dX3_begin_10 : decode cX3_begin 10 = .ok (.aload_n 0, 1) := by decide +kernel
theorem dX3_begin_11 : decode cX3_begin 11 = .ok (.iload_n 3, 1) := by decide +kernel
theorem dX3_begin_12 : decode cX3_begin 12 = .ok (.putfield 36, 3) := by decide +kernel
theorem dX3_begin_15 : decode cX3_begin 15 = .ok (.aload_n 0, 1) := by decide +kernel
theorem dX3_begin_16 : decode cX3_begin 16 = .ok (.iconst 0, 1) := by decide +kernel
theorem dX3_begin_17 : decode cX3_begin 17 = .ok (.iload 4, 2) := by decide +kernel
theorem dX3_begin_19 : decode cX3_begin 19 = .ok (.invokestatic 39, 3) := by decide +kernel
theorem dX3_begin_22 : decode cX3_begin 22 = .ok (.putfield 45, 3) := by decide +kernel
theorem dX3_begin_25 : decode cX3_begin 25 = .ok (.aload_n 0, 1) := by decide +kernel
theorem dX3_begin_26 : decode cX3_begin 26 = .ok (.iconst 1, 1) := by decide +kernel
theorem dX3_begin_27 : decode cX3_begin 27 = .ok (.aload_n 1, 1) := by decide +kernel
theorem dX3_begin_28 : decode cX3_begin 28 = .ok (.getfield 48, 3) := by decide +kernel
theorem dX3_begin_31 : decode cX3_begin 31 = .ok (.invokestatic 39, 3) := by decide +kernel
theorem dX3_begin_34 : decode cX3_begin 34 = .ok (.putfield 29, 3) := by decide +kernel
theorem dX3_begin_37 : decode cX3_begin 37 = .ok (.aload_n 0, 1) := by decide +kernel
theorem dX3_begin_38 : decode cX3_begin 38 = .ok (.aload_n 0, 1) := by decide +kernel
theorem dX3_begin_39 : decode cX3_begin 39 = .ok (.getfield 45, 3) := by decide +kernel
theorem dX3_begin_42 : decode cX3_begin 42 = .ok (.iconst 1, 1) := by decide +kernel
theorem dX3_begin_43 : decode cX3_begin 43 = .ok (.isub, 1) := by decide +kernel
theorem dX3_begin_44 : decode cX3_begin 44 = .ok (.putfield 49, 3) := by decide +kernel
theorem dX3_begin_47 : decode cX3_begin 47 = .ok (.aload_n 0, 1) := by decide +kernel
theorem dX3_begin_48 : decode cX3_begin 48 = .ok (.getfield 25, 3) := by decide +kernel
theorem dX3_begin_51 : decode cX3_begin 51 = .ok (.aload_n 0, 1) := by decide +kernel
theorem dX3_begin_52 : decode cX3_begin 52 = .ok (.getfield 33, 3) := by decide +kernel
theorem dX3_begin_55 : decode cX3_begin 55 = .ok (.aload_n 0, 1) := by decide +kernel
theorem dX3_begin_56 : decode cX3_begin 56 = .ok (.getfield 36, 3) := by decide +kernel
theorem dX3_begin_59 : decode cX3_begin 59 = .ok (.invokevirtual 52, 3) := by decide +kernel
theorem dX3_begin_62 : decode cX3_begin 62 = .ok (.ifCond .eq 13, 3) := by decide +kernel
theorem dX3_begin_65 : decode cX3_begin 65 = .ok (.aload_n 0, 1) := by decide +kernel
theorem dX3_begin_66 : decode cX3_begin 66 = .ok (.getfield 45, 3) := by decide +kernel
theorem dX3_begin_69 : decode cX3_begin 69 = .ok (.sipush 600, 3) := by decide +kernel
theorem dX3_begin_72 : decode cX3_begin 72 = .ok (.if_icmp .le 4, 3) := by decide +kernel
theorem dX3_begin_76 : decode cX3_begin 76 = .ok (.aload_n 0, 1) := by decide +kernel
theorem dX3_begin_77 : decode cX3_begin 77 = .ok (.getfield 25, 3) := by decide +kernel
theorem dX3_begin_80 : decode cX3_begin 80 = .ok (.aload_n 0, 1) := by decide +kernel
theorem dX3_begin_81 : decode cX3_begin 81 = .ok (.getfield 33, 3) := by decide +kernel
theorem dX3_begin_84 : decode cX3_begin 84 = .ok (.aload_n 0, 1) := by decide +kernel
theorem dX3_begin_85 : decode cX3_begin 85 = .ok (.getfield 36, 3) := by decide +kernel
theorem dX3_begin_88 : decode cX3_begin 88 = .ok (.iconst 1, 1) := by decide +kernel
theorem dX3_begin_89 : decode cX3_begin 89 = .ok (.invokevirtual 56, 3) := by decide +kernel
theorem dX3_begin_92 : decode cX3_begin 92 = .ok (.istore 5, 2) := by decide +kernel
theorem dX3_begin_94 : decode cX3_begin 94 = .ok (.aload_n 0, 1) := by decide +kernel
theorem dX3_begin_95 : decode cX3_begin 95 = .ok (.aload_n 0, 1) := by decide +kernel
theorem dX3_begin_96 : decode cX3_begin 96 = .ok (.getfield 45, 3) := by decide +kernel
theorem dX3_begin_99 : decode cX3_begin 99 = .ok (.putfield 49, 3) := by decide +kernel
theorem dX3_begin_102 : decode cX3_begin 102 = .ok (.aload_n 0, 1) := by decide +kernel
theorem dX3_begin_103 : decode cX3_begin 103 = .ok (.getfield 49, 3) := by decide +kernel
theorem dX3_begin_106 : decode cX3_begin 106 = .ok (.iload 5, 2) := by decide +kernel
theorem dX3_begin_108 : decode cX3_begin 108 = .ok (.if_icmp .ge 34, 3) := by decide +kernel
theorem dX3_begin_142 : decode cX3_begin 142 = .ok (.aload_n 0, 1) := by decide +kernel
theorem dX3_begin_143 : decode cX3_begin 143 = .ok (.ldc2_w 60, 3) := by decide +kernel
theorem dX3_begin_146 : decode cX3_begin 146 = .ok (.aload_n 0, 1) := by decide +kernel
theorem dX3_begin_147 : decode cX3_begin 147 = .ok (.getfield 25, 3) := by decide +kernel
theorem dX3_begin_150 : decode cX3_begin 150 = .ok (.getfield 62, 3) := by decide +kernel
theorem dX3_begin_153 : decode cX3_begin 153 = .ok (.aload_n 0, 1) := by decide +kernel
theorem dX3_begin_154 : decode cX3_begin 154 = .ok (.getfield 29, 3) := by decide +kernel
theorem dX3_begin_157 : decode cX3_begin 157 = .ok (.aload_n 0, 1) := by decide +kernel
theorem dX3_begin_158 : decode cX3_begin 158 = .ok (.getfield 25, 3) := by decide +kernel
theorem dX3_begin_161 : decode cX3_begin 161 = .ok (.getfield 65, 3) := by decide +kernel
theorem dX3_begin_164 : decode cX3_begin 164 = .ok (.aload_n 0, 1) := by decide +kernel
theorem dX3_begin_165 : decode cX3_begin 165 = .ok (.getfield 36, 3) := by decide +kernel
theorem dX3_begin_168 : decode cX3_begin 168 = .ok (.iaload, 1) := by decide +kernel
theorem dX3_begin_169 : decode cX3_begin 169 = .ok (.imul, 1) := by decide +kernel
theorem dX3_begin_170 : decode cX3_begin 170 = .ok (.iadd, 1) := by decide +kernel
theorem dX3_begin_171 : decode cX3_begin 171 = .ok (.i2l, 1) := by decide +kernel
theorem dX3_begin_172 : decode cX3_begin 172 = .ok (.lmul, 1) := by decide +kernel
theorem dX3_begin_173 : decode cX3_begin 173 = .ok (.putfield 68, 3) := by decide +kernel
theorem dX3_begin_176 : decode cX3_begin 176 = .ok (.aload_n 0, 1) := by decide +kernel
theorem dX3_begin_177 : decode cX3_begin 177 = .ok (.getfield 45, 3) := by decide +kernel
theorem dX3_begin_180 : decode cX3_begin 180 = .ok (.istore 6, 2) := by decide +kernel
theorem dX3_begin_182 : decode cX3_begin 182 = .ok (.iload 6, 2) := by decide +kernel
theorem dX3_begin_184 : decode cX3_begin 184 = .ok (.aload_n 0, 1) := by decide +kernel
theorem dX3_begin_185 : decode cX3_begin 185 = .ok (.getfield 49, 3) := by decide +kernel
theorem dX3_begin_188 : decode cX3_begin 188 = .ok (.if_icmp .gt 65, 3) := by decide +kernel
theorem dX3_begin_253 : decode cX3_begin 253 = .ok (.return_, 1) := by decide +kernel
theorem dX3_begin_191 : decode cX3_begin 191 = .ok (.aload_n 0, 1) := by decide +kernel
theorem dX3_begin_192 : decode cX3_begin 192 = .ok (.getfield 9, 3) := by decide +kernel
theorem dX3_begin_195 : decode cX3_begin 195 = .ok (.iload 6, 2) := by decide +kernel
theorem dX3_begin_197 : decode cX3_begin 197 = .ok (.ldc2_w 60, 3) := by decide +kernel
theorem dX3_begin_200 : decode cX3_begin 200 = .ok (.aload_n 0, 1) := by decide +kernel
theorem dX3_begin_201 : decode cX3_begin 201 = .ok (.getfield 25, 3) := by decide +kernel
theorem dX3_begin_204 : decode cX3_begin 204 = .ok (.getfield 71, 3) := by decide +kernel
theorem dX3_begin_207 : decode cX3_begin 207 = .ok (.aload_n 0, 1) := by decide +kernel
theorem dX3_begin_208 : decode cX3_begin 208 = .ok (.getfield 36, 3) := by decide +kernel
theorem dX3_begin_211 : decode cX3_begin 211 = .ok (.iaload, 1) := by decide +kernel
theorem dX3_begin_212 : decode cX3_begin 212 = .ok (.i2l, 1) := by decide +kernel
theorem dX3_begin_213 : decode cX3_begin 213 = .ok (.lmul, 1) := by decide +kernel
theorem dX3_begin_214 : decode cX3_begin 214 = .ok (.iload 6, 2) := by decide +kernel
theorem dX3_begin_216 : decode cX3_begin 216 = .ok (.i2l, 1) := by decide +kernel
theorem dX3_begin_217 : decode cX3_begin 217 = .ok (.lmul, 1) := by decide +kernel
theorem dX3_begin_218 : decode cX3_begin 218 = .ok (.lastore, 1) := by decide +kernel
theorem dX3_begin_219 : decode cX3_begin 219 = .ok (.aload_n 0, 1) := by decide +kernel
theorem dX3_begin_220 : decode cX3_begin 220 = .ok (.getfield 15, 3) := by decide +kernel
theorem dX3_begin_223 : decode cX3_begin 223 = .ok (.iload 6, 2) := by decide +kernel
theorem dX3_begin_225 : decode cX3_begin 225 = .ok (.aload_n 0, 1) := by decide +kernel
theorem dX3_begin_226 : decode cX3_begin 226 = .ok (.getfield 9, 3) := by decide +kernel
theorem dX3_begin_229 : decode cX3_begin 229 = .ok (.iload 6, 2) := by decide +kernel
theorem dX3_begin_231 : decode cX3_begin 231 = .ok (.laload, 1) := by decide +kernel
theorem dX3_begin_232 : decode cX3_begin 232 = .ok (.lastore, 1) := by decide +kernel
theorem dX3_begin_233 : decode cX3_begin 233 = .ok (.aload_n 0, 1) := by decide +kernel
theorem dX3_begin_234 : decode cX3_begin 234 = .ok (.getfield 18, 3) := by decide +kernel
theorem dX3_begin_237 : decode cX3_begin 237 = .ok (.iload 6, 2) := by decide +kernel
theorem dX3_begin_239 : decode cX3_begin 239 = .ok (.iconst (-1), 1) := by decide +kernel
theorem dX3_begin_240 : decode cX3_begin 240 = .ok (.iastore, 1) := by decide +kernel
theorem dX3_begin_241 : decode cX3_begin 241 = .ok (.iload 6, 2) := by decide +kernel
theorem dX3_begin_243 : decode cX3_begin 243 = .ok (.aload_n 0, 1) := by decide +kernel
theorem dX3_begin_244 : decode cX3_begin 244 = .ok (.getfield 29, 3) := by decide +kernel
theorem dX3_begin_247 : decode cX3_begin 247 = .ok (.iadd, 1) := by decide +kernel
theorem dX3_begin_248 : decode cX3_begin 248 = .ok (.istore 6, 2) := by decide +kernel
theorem dX3_begin_250 : decode cX3_begin 250 = .ok (.goto (-68), 3) := by decide +kernel
theorem dX3_begin_111 : decode cX3_begin 111 = .ok (.aload_n 0, 1) := by decide +kernel
theorem dX3_begin_112 : decode cX3_begin 112 = .ok (.getfield 49, 3) := by decide +kernel
theorem dX3_begin_115 : decode cX3_begin 115 = .ok (.aload_n 0, 1) := by decide +kernel
theorem dX3_begin_116 : decode cX3_begin 116 = .ok (.getfield 29, 3) := by decide +kernel
theorem dX3_begin_119 : decode cX3_begin 119 = .ok (.iadd, 1) := by decide +kernel
theorem dX3_begin_120 : decode cX3_begin 120 = .ok (.sipush 600, 3) := by decide +kernel
theorem dX3_begin_123 : decode cX3_begin 123 = .ok (.if_icmp .gt 19, 3) := by decide +kernel
theorem dX3_begin_126 : decode cX3_begin 126 = .ok (.aload_n 0, 1) := by decide +kernel
theorem dX3_begin_127 : decode cX3_begin 127 = .ok (.dup, 1) := by decide +kernel
theorem dX3_begin_128 : decode cX3_begin 128 = .ok (.getfield 49, 3) := by decide +kernel
theorem dX3_begin_131 : decode cX3_begin 131 = .ok (.aload_n 0, 1) := by decide +kernel
theorem dX3_begin_132 : decode cX3_begin 132 = .ok (.getfield 29, 3) := by decide +kernel
theorem dX3_begin_135 : decode cX3_begin 135 = .ok (.iadd, 1) := by decide +kernel
theorem dX3_begin_136 : decode cX3_begin 136 = .ok (.putfield 49, 3) := by decide +kernel
theorem dX3_begin_139 : decode cX3_begin 139 = .ok (.goto (-37), 3) := by decide +kernel
theorem dX3_begin_75 : decode cX3_begin 75 = .ok (.return_, 1) := by decide +kernel
theorem dX3_leastFromFirst_0 : decode cX3_leastFromFirst 0 = .ok (.aload_n 0, 1) := by decide +kernel
theorem dX3_leastFromFirst_1 : decode cX3_leastFromFirst 1 = .ok (.aload_n 1, 1) := by decide +kernel
theorem dX3_leastFromFirst_2 : decode cX3_leastFromFirst 2 = .ok (.iload_n 2, 1) := by decide +kernel
theorem dX3_leastFromFirst_3 : decode cX3_leastFromFirst 3 = .ok (.iload_n 3, 1) := by decide +kernel
theorem dX3_leastFromFirst_4 : decode cX3_leastFromFirst 4 = .ok (.iconst 0, 1) := by decide +kernel
theorem dX3_leastFromFirst_5 : decode cX3_leastFromFirst 5 = .ok (.invokevirtual 74, 3) := by decide +kernel
theorem dX3_leastFromFirst_8 : decode cX3_leastFromFirst 8 = .ok (.aload_n 0, 1) := by decide +kernel
theorem dX3_leastFromFirst_9 : decode cX3_leastFromFirst 9 = .ok (.getfield 25, 3) := by decide +kernel
theorem dX3_leastFromFirst_12 : decode cX3_leastFromFirst 12 = .ok (.getfield 78, 3) := by decide +kernel
theorem dX3_leastFromFirst_15 : decode cX3_leastFromFirst 15 = .ok (.istore 4, 2) := by decide +kernel
theorem dX3_leastFromFirst_17 : decode cX3_leastFromFirst 17 = .ok (.iload 4, 2) := by decide +kernel
theorem dX3_leastFromFirst_19 : decode cX3_leastFromFirst 19 = .ok (.iconst 1, 1) := by decide +kernel
theorem dX3_leastFromFirst_20 : decode cX3_leastFromFirst 20 = .ok (.if_icmp .lt 15, 3) := by decide +kernel
theorem dX3_leastFromFirst_35 : decode cX3_leastFromFirst 35 = .ok (.aload_n 0, 1) := by decide +kernel
theorem dX3_leastFromFirst_36 : decode cX3_leastFromFirst 36 = .ok (.getfield 15, 3) := by decide +kernel
theorem dX3_leastFromFirst_39 : decode cX3_leastFromFirst 39 = .ok (.iconst 0, 1) := by decide +kernel
theorem dX3_leastFromFirst_40 : decode cX3_leastFromFirst 40 = .ok (.laload, 1) := by decide +kernel
theorem dX3_leastFromFirst_41 : decode cX3_leastFromFirst 41 = .ok (.lreturn, 1) := by decide +kernel
theorem dX3_leastFromFirst_23 : decode cX3_leastFromFirst 23 = .ok (.aload_n 0, 1) := by decide +kernel
theorem dX3_leastFromFirst_24 : decode cX3_leastFromFirst 24 = .ok (.iload 4, 2) := by decide +kernel
theorem dX3_leastFromFirst_26 : decode cX3_leastFromFirst 26 = .ok (.invokevirtual 81, 3) := by decide +kernel
theorem dX3_leastFromFirst_29 : decode cX3_leastFromFirst 29 = .ok (.iinc 4 (-1), 3) := by decide +kernel
theorem dX3_leastFromFirst_32 : decode cX3_leastFromFirst 32 = .ok (.goto (-15), 3) := by decide +kernel
theorem dX3_lastSentInClear_0 : decode cX3_lastSentInClear 0 = .ok (.aload_n 0, 1) := by decide +kernel
theorem dX3_lastSentInClear_1 : decode cX3_lastSentInClear 1 = .ok (.aload_n 1, 1) := by decide +kernel
theorem dX3_lastSentInClear_2 : decode cX3_lastSentInClear 2 = .ok (.iload_n 2, 1) := by decide +kernel
theorem dX3_lastSentInClear_3 : decode cX3_lastSentInClear 3 = .ok (.iload_n 3, 1) := by decide +kernel
theorem dX3_lastSentInClear_4 : decode cX3_lastSentInClear 4 = .ok (.invokevirtual 85, 3) := by decide +kernel
theorem dX3_lastSentInClear_7 : decode cX3_lastSentInClear 7 = .ok (.pop2, 1) := by decide +kernel
theorem dX3_lastSentInClear_8 : decode cX3_lastSentInClear 8 = .ok (.aload_n 0, 1) := by decide +kernel
theorem dX3_lastSentInClear_9 : decode cX3_lastSentInClear 9 = .ok (.getfield 18, 3) := by decide +kernel
theorem dX3_lastSentInClear_12 : decode cX3_lastSentInClear 12 = .ok (.iconst 0, 1) := by decide +kernel
theorem dX3_lastSentInClear_13 : decode cX3_lastSentInClear 13 = .ok (.iaload, 1) := by decide +kernel
theorem dX3_lastSentInClear_14 : decode cX3_lastSentInClear 14 = .ok (.ireturn, 1) := by decide +kernel
theorem dX3_sentOn_0 : decode cX3_sentOn 0 = .ok (.aload_n 0, 1) := by decide +kernel
theorem dX3_sentOn_1 : decode cX3_sentOn 1 = .ok (.getfield 25, 3) := by decide +kernel
theorem dX3_sentOn_4 : decode cX3_sentOn 4 = .ok (.getfield 78, 3) := by decide +kernel
theorem dX3_sentOn_7 : decode cX3_sentOn 7 = .ok (.istore_n 3, 1) := by decide +kernel
theorem dX3_sentOn_8 : decode cX3_sentOn 8 = .ok (.iload_n 3, 1) := by decide +kernel
theorem dX3_sentOn_9 : decode cX3_sentOn 9 = .ok (.iload_n 1, 1) := by decide +kernel
theorem dX3_sentOn_10 : decode cX3_sentOn 10 = .ok (.if_icmp .le 14, 3) := by decide +kernel
theorem dX3_sentOn_24 : decode cX3_sentOn 24 = .ok (.aload_n 0, 1) := by decide +kernel
theorem dX3_sentOn_25 : decode cX3_sentOn 25 = .ok (.iload_n 1, 1) := by decide +kernel
theorem dX3_sentOn_26 : decode cX3_sentOn 26 = .ok (.invokevirtual 89, 3) := by decide +kernel
theorem dX3_sentOn_29 : decode cX3_sentOn 29 = .ok (.aload_n 0, 1) := by decide +kernel
theorem dX3_sentOn_30 : decode cX3_sentOn 30 = .ok (.iload_n 2, 1) := by decide +kernel
theorem dX3_sentOn_31 : decode cX3_sentOn 31 = .ok (.ifCond .eq 10, 3) := by decide +kernel
theorem dX3_sentOn_41 : decode cX3_sentOn 41 = .ok (.aload_n 0, 1) := by decide +kernel
theorem dX3_sentOn_42 : decode cX3_sentOn 42 = .ok (.getfield 15, 3) := by decide +kernel
theorem dX3_sentOn_45 : decode cX3_sentOn 45 = .ok (.aload_n 0, 1) := by decide +kernel
theorem dX3_sentOn_46 : decode cX3_sentOn 46 = .ok (.getfield 45, 3) := by decide +kernel
theorem dX3_sentOn_49 : decode cX3_sentOn 49 = .ok (.invokevirtual 92, 3) := by decide +kernel
theorem dX3_sentOn_52 : decode cX3_sentOn 52 = .ok (.ireturn, 1) := by decide +kernel
theorem dX3_sentOn_34 : decode cX3_sentOn 34 = .ok (.aload_n 0, 1) := by decide +kernel
theorem dX3_sentOn_35 : decode cX3_sentOn 35 = .ok (.getfield 9, 3) := by decide +kernel
theorem dX3_sentOn_38 : decode cX3_sentOn 38 = .ok (.goto 7, 3) := by decide +kernel
theorem dX3_sentOn_13 : decode cX3_sentOn 13 = .ok (.aload_n 0, 1) := by decide +kernel
theorem dX3_sentOn_14 : decode cX3_sentOn 14 = .ok (.iload_n 3, 1) := by decide +kernel
theorem dX3_sentOn_15 : decode cX3_sentOn 15 = .ok (.invokevirtual 81, 3) := by decide +kernel
theorem dX3_sentOn_18 : decode cX3_sentOn 18 = .ok (.iinc 3 (-1), 3) := by decide +kernel
theorem dX3_sentOn_21 : decode cX3_sentOn 21 = .ok (.goto (-13), 3) := by decide +kernel
theorem sV_X3_52 : SiteV RX3 52 yX2_hasStore cX2_hasStore 3 (some .boolean) 2 := ⟨ml_X3_52, im_X2_hasStore, se_X2_hasStore, ini_X2, co_X2_hasStore, by decide +kernel⟩
theorem sV_X3_56 : SiteV RX3 56 yX2_wanted cX2_wanted 4 (some .int) 3 := ⟨ml_X3_56, im_X2_wanted, se_X2_wanted, ini_X2, co_X2_wanted, by decide +kernel⟩
theorem sV_X3_99 : SiteV RX3 99 yX2_chance cX2_chance 3 (some .int) 2 := ⟨ml_X3_99, im_X2_chance, se_X2_chance, ini_X2, co_X2_chance, by decide +kernel⟩
theorem sV_X3_89 : SiteV RX3 89 yX3_weigh cX3_weigh 17 none 1 := ⟨ml_X3_89, im_X3_weigh, se_X3_weigh, ini_X3, co_X3_weigh, by decide +kernel⟩
theorem sV_X3_92 : SiteV RX3 92 yX3_fewestOf cX3_fewestOf 8 (some .int) 2 := ⟨ml_X3_92, im_X3_fewestOf, se_X3_fewestOf, ini_X3, co_X3_fewestOf, by decide +kernel⟩
theorem sV_X3_74 : SiteV RX3 74 yX3_begin cX3_begin 7 none 4 := ⟨ml_X3_74, im_X3_begin, se_X3_begin, ini_X3, co_X3_begin, by decide +kernel⟩
theorem sV_X3_81 : SiteV RX3 81 yX3_settle cX3_settle 5 none 1 := ⟨ml_X3_81, im_X3_settle, se_X3_settle, ini_X3, co_X3_settle, by decide +kernel⟩
theorem sV_X3_85 : SiteV RX3 85 yX3_leastFromFirst cX3_leastFromFirst 5 (some .long) 3 := ⟨ml_X3_85, im_X3_leastFromFirst, se_X3_leastFromFirst, ini_X3, co_X3_leastFromFirst, by decide +kernel⟩
set_option maxHeartbeats 4000000 in
set_option maxRecDepth 100000 in
theorem t_X3_weigh (l : Launch) (D : va_G) (cy : Nat → ClassId) (base : Nat) (τ : Nat → Nat) (G : Gh) (a : Nat) (h_a : τ a = 4) (v : Int32) : MM l yX3_weigh cX3_weigh 17 none 2 0 0 D cy [.ref a, .int v] (PT D cy base τ G) (QT D cy base τ G [30] (fun v g => v = none ∧ (True))) (RA base) := by
  refine MM.of (by decide) (Nat.le_of_ble_eq_true rfl) ?_
  intro p e s m below meth c C hPT ls hl
  obtain ⟨hx, hb, hr, hml, hown, hts, hlocks, hK, hnm⟩ := C
  obtain ⟨hZ, hT⟩ := hPT
  have hS : va_S (RA base) s.heap s.heap [] := va_S.rf
  have hF : Fr τ [30] G G := Fr.rf
  have hl : lv_has ls 17 [(0, .ref a), (1, .int v)] := hl
  refine lv_aload_n hx hb dX3_weigh_0 rfl (lv_at hl 0 rfl) ?_
  refine t_getr cf_4 hx hb hts hown hK hT h_a (k := 3) (P := fun q => τ q = 7) rfl (fun _ h9 => h9) fl_X3_25 (fun _ h9 => h9) dX3_weigh_1 (fun q_1 eq_1 hq_1 => ?_)
  refine lv_aload_n hx hb dX3_weigh_4 rfl (lv_at hl 0 rfl) ?_
  refine t_geti cf_4 hx hb hts hown hK hT h_a (k := 4) rfl fl_X3_33 (fun _ h9 => h9) dX3_weigh_5 (fun z_2 ez_2 rz_2 => ?_)
  have ez_2 : z_2 = G.1 a 4 := ez_2
  refine lv_aload_n hx hb dX3_weigh_8 rfl (lv_at hl 0 rfl) ?_
  refine t_geti cf_4 hx hb hts hown hK hT h_a (k := 5) rfl fl_X3_36 (fun _ h9 => h9) dX3_weigh_9 (fun z_3 ez_3 rz_3 => ?_)
  have ez_3 : z_3 = G.1 a 5 := ez_3
  refine pu_calli (runV (As := [.int z_2, .int z_3]) (rest := []) ⟨hx, hb, hml, hown, hts⟩ (t_X2_hasStore l D cy base τ G q_1 hq_1 z_2 z_3) sV_X3_52 hK (t_recv cf_7 hK hT hq_1) ⟨Nat.le_trans hZ hS.1, hT⟩ ⟨Nat.le_of_ble_eq_true rfl, Nat.le_of_ble_eq_true rfl⟩ rfl hl.1 rfl (Nat.le_of_ble_eq_true rfl) dX3_weigh_12 ⟨Nat.le_of_ble_eq_true rfl, Nat.le_of_ble_eq_true rfl⟩) (fun r_4 hr_4 => ?_)
  have hr_4_c := hr_4
  rcases hr_4_c with hr_4_0 | hr_4_1
  · skip
    obtain ⟨er_4, hr_4_0_f0, hr_4_0_f1, hr_4_0_f2, hr_4_0_f3⟩ := hr_4_0
    have hr_4_0_f0 : 0 ≤ z_2.toInt := hr_4_0_f0
    have hr_4_0_f1 : z_2.toInt ≤ 5 := hr_4_0_f1
    have hr_4_0_f2 : 0 ≤ z_3.toInt := hr_4_0_f2
    have hr_4_0_f3 : z_3.toInt ≤ 2 := hr_4_0_f3
    subst er_4
    refine W.eq (g2 := F0 m 15 ls [.int 1]) rfl ?_
    refine lv_if_ne (tgt := 19) hx hb dX3_weigh_15 (by decide) (fun _ => ?_) (fun c_5 => absurd c_5 (by decide))
    refine lv_aload_n hx hb dX3_weigh_19 rfl (lv_at hl 0 rfl) ?_
    refine t_getr cf_4 hx hb hts hown hK hT h_a (k := 3) (P := fun q => τ q = 7) rfl (fun _ h9 => h9) fl_X3_25 (fun _ h9 => h9) dX3_weigh_20 (fun q_6 eq_6 hq_6 => ?_)
    have w_7 : q_1 = q_6 := Option.some.inj (eq_1.symm.trans eq_6)
    subst w_7
    refine t_getr cf_7 hx hb hts hown hK hT hq_1 (k := 17) (P := fun q => τ q = 27) rfl (fun _ h9 => h9) fl_X3_96 (fun _ h9 => h9) dX3_weigh_23 (fun q_8 eq_8 hq_8 => ?_)
    refine lv_aload_n hx hb dX3_weigh_26 rfl (lv_at hl 0 rfl) ?_
    refine t_geti cf_4 hx hb hts hown hK hT h_a (k := 4) rfl fl_X3_33 (fun _ h9 => h9) dX3_weigh_27 (fun z_9 ez_9 rz_9 => ?_)
    have w_10 : z_2 = z_9 := ez_2.trans ez_9.symm
    subst w_10
    refine t_iald (n := 6) (i := z_2) rfl (by decide) hx hb hK hT hq_8 (hT.len hq_8 (by decide)) ⟨by omega, by omega⟩ dX3_weigh_30 (fun z_11 ez_11 rz_11 => ?_)
    refine lv_istore_n (lv' := [(2, .int z_11), (0, .ref a), (1, .int v)]) hx hb dX3_weigh_31 rfl hl (by decide) rfl (fun ls hl => ?_)
    refine lv_aload_n hx hb dX3_weigh_32 rfl (lv_at hl 1 rfl) ?_
    refine t_getr cf_4 hx hb hts hown hK hT h_a (k := 3) (P := fun q => τ q = 7) rfl (fun _ h9 => h9) fl_X3_25 (fun _ h9 => h9) dX3_weigh_33 (fun q_12 eq_12 hq_12 => ?_)
    have w_13 : q_1 = q_12 := Option.some.inj (eq_1.symm.trans eq_12)
    subst w_13
    refine lv_aload_n hx hb dX3_weigh_36 rfl (lv_at hl 1 rfl) ?_
    refine t_geti cf_4 hx hb hts hown hK hT h_a (k := 4) rfl fl_X3_33 (fun _ h9 => h9) dX3_weigh_37 (fun z_14 ez_14 rz_14 => ?_)
    have w_15 : z_2 = z_14 := ez_2.trans ez_14.symm
    subst w_15
    refine lv_aload_n hx hb dX3_weigh_40 rfl (lv_at hl 1 rfl) ?_
    refine t_geti cf_4 hx hb hts hown hK hT h_a (k := 5) rfl fl_X3_36 (fun _ h9 => h9) dX3_weigh_41 (fun z_16 ez_16 rz_16 => ?_)
    have w_17 : z_3 = z_16 := ez_3.trans ez_16.symm
    subst w_17
    refine lv_iload_n hx hb dX3_weigh_44 rfl (lv_at hl 2 rfl) ?_
    refine pu_calli (runV (As := [.int z_2, .int z_3, .int v]) (rest := []) ⟨hx, hb, hml, hown, hts⟩ (t_X2_wanted l D cy base τ G q_1 hq_1 z_2 z_3 v) sV_X3_56 hK (t_recv cf_7 hK hT hq_1) ⟨Nat.le_trans hZ hS.1, hT⟩ ⟨Nat.le_of_ble_eq_true rfl, Nat.le_of_ble_eq_true rfl⟩ rfl hl.1 rfl (Nat.le_of_ble_eq_true rfl) dX3_weigh_45 ⟨Nat.le_of_ble_eq_true rfl, Nat.le_of_ble_eq_true rfl⟩) (fun r_18 hr_18 => ?_)
    refine lv_istore_n (lv' := [(3, .int r_18), (2, .int z_11), (0, .ref a), (1, .int v)]) hx hb dX3_weigh_48 rfl hl (by decide) rfl (fun ls hl => ?_)
    refine lv_aload_n hx hb dX3_weigh_49 rfl (lv_at hl 2 rfl) ?_
    refine t_getr cf_4 hx hb hts hown hK hT h_a (k := 3) (P := fun q => τ q = 7) rfl (fun _ h9 => h9) fl_X3_25 (fun _ h9 => h9) dX3_weigh_50 (fun q_19 eq_19 hq_19 => ?_)
    have w_20 : q_1 = q_19 := Option.some.inj (eq_1.symm.trans eq_19)
    subst w_20
    refine lv_iload_n hx hb dX3_weigh_53 rfl (lv_at hl 3 rfl) ?_
    refine lv_iconst (v := 1) hx hb dX3_weigh_54 (by decide) ?_
    refine pu_calli (runV (As := [.int v, .int 1]) (rest := []) ⟨hx, hb, hml, hown, hts⟩ (t_X2_chance l D cy base τ G q_1 hq_1 v 1) sV_X3_99 hK (t_recv cf_7 hK hT hq_1) ⟨Nat.le_trans hZ hS.1, hT⟩ ⟨Nat.le_of_ble_eq_true rfl, Nat.le_of_ble_eq_true rfl⟩ rfl hl.1 rfl (Nat.le_of_ble_eq_true rfl) dX3_weigh_55 ⟨Nat.le_of_ble_eq_true rfl, Nat.le_of_ble_eq_true rfl⟩) (fun r_21 hr_21 => ?_)
    refine lv_istore (lv' := [(4, .int r_21), (3, .int r_18), (2, .int z_11), (0, .ref a), (1, .int v)]) hx hb dX3_weigh_58 hl (by decide) rfl (fun ls hl => ?_)
    refine lv_aload_n hx hb dX3_weigh_60 rfl (lv_at hl 3 rfl) ?_
    refine t_getr cf_4 hx hb hts hown hK hT h_a (k := 3) (P := fun q => τ q = 7) rfl (fun _ h9 => h9) fl_X3_25 (fun _ h9 => h9) dX3_weigh_61 (fun q_22 eq_22 hq_22 => ?_)
    have w_23 : q_1 = q_22 := Option.some.inj (eq_1.symm.trans eq_22)
    subst w_23
    refine lv_iload_n hx hb dX3_weigh_64 rfl (lv_at hl 4 rfl) ?_
    refine lv_iconst (v := 0) hx hb dX3_weigh_65 (by decide) ?_
    refine pu_calli (runV (As := [.int v, .int 0]) (rest := []) ⟨hx, hb, hml, hown, hts⟩ (t_X2_chance l D cy base τ G q_1 hq_1 v 0) sV_X3_99 hK (t_recv cf_7 hK hT hq_1) ⟨Nat.le_trans hZ hS.1, hT⟩ ⟨Nat.le_of_ble_eq_true rfl, Nat.le_of_ble_eq_true rfl⟩ rfl hl.1 rfl (Nat.le_of_ble_eq_true rfl) dX3_weigh_66 ⟨Nat.le_of_ble_eq_true rfl, Nat.le_of_ble_eq_true rfl⟩) (fun r_24 hr_24 => ?_)
    refine lv_istore (lv' := [(5, .int r_24), (4, .int r_21), (3, .int r_18), (2, .int z_11), (0, .ref a), (1, .int v)]) hx hb dX3_weigh_69 hl (by decide) rfl (fun ls hl => ?_)
    refine lv_aload_n hx hb dX3_weigh_71 rfl (lv_at hl 4 rfl) ?_
    refine t_geti cf_4 hx hb hts hown hK hT h_a (k := 6) rfl fl_X3_45 (fun _ h9 => h9) dX3_weigh_72 (fun z_25 ez_25 rz_25 => ?_)
    have ez_25 : z_25 = G.1 a 6 := ez_25
    have rz_25 : 0 ≤ z_25.toInt ∧ z_25.toInt ≤ 600 := rz_25
    refine lv_istore (lv' := [(6, .int z_25), (5, .int r_24), (4, .int r_21), (3, .int r_18), (2, .int z_11), (0, .ref a), (1, .int v)]) hx hb dX3_weigh_75 hl (by decide) rfl (fun ls hl => ?_)
    refine W.loop (σ := Int32 × Gh) (fun w26 H locs ls => 0 ≤ w26.1.toInt ∧ w26.1.toInt ≤ 700 ∧ Fr τ [30] G w26.2 ∧ TY D cy base τ w26.2 H ∧ va_S (RA base) s.heap H locs ∧ lv_has ls 17 [(6, .int w26.1), (5, .int r_24), (4, .int r_21), (3, .int r_18), (2, .int z_11), (0, .ref a), (1, .int v)]) (fun w26 => (700 - w26.1.toInt).toNat) ?_ (z_25, G) _ _ _ ⟨(by show 0 ≤ z_25.toInt; omega), (by show z_25.toInt ≤ 700; omega), hF, hT, hS, lv_sub hl [0, 1, 2, 3, 4, 5, 6] rfl⟩
    intro w26 H locs ls hI ih26
    obtain ⟨x26_6, G_26⟩ := w26
    obtain ⟨i26_0, i26_1, hF, hT, hS, hl⟩ := hI
    have i26_0 : 0 ≤ x26_6.toInt := i26_0
    have i26_1 : x26_6.toInt ≤ 700 := i26_1
    have hF : Fr τ [30] G G_26 := hF
    have hT : TY D cy base τ G_26 H := hT
    have hS : va_S (RA base) s.heap H locs := hS
    have hl : lv_has ls 17 [(6, .int x26_6), (5, .int r_24), (4, .int r_21), (3, .int r_18), (2, .int z_11), (0, .ref a), (1, .int v)] := hl
    refine lv_iload hx hb dX3_weigh_77 (lv_at hl 0 rfl) ?_
    refine lv_aload_n hx hb dX3_weigh_79 rfl (lv_at hl 5 rfl) ?_
    refine t_geti cf_4 hx hb hts hown hK hT h_a (k := 7) rfl fl_X3_49 (fun _ h9 => h9) dX3_weigh_80 (fun z_27 ez_27 rz_27 => ?_)
    have ez_27 : z_27 = G_26.1 a 7 := ez_27
    have rz_27 : -1 ≤ z_27.toInt ∧ z_27.toInt ≤ 600 := rz_27
    have ez_27 : z_27 = G.1 a 7 := ez_27.trans (hF.i h_a (by decide) rfl _)
    refine lv_icmp_gt (tgt := 247) hx hb dX3_weigh_83 (by decide) (fun c_28 => ?_) (fun c_28 => ?_)
    · skip
      have tc_28 : z_27.toInt < x26_6.toInt := (fa_lt _ _).mp c_28
      exact ret_v hx hb hr hlocks ⟨⟨hS.1, hS.2.1⟩, G_26, hF, ⟨rfl, trivial⟩, hT⟩ hS.2.2 (Nat.le_of_ble_eq_true rfl) (Nat.le_of_ble_eq_true rfl) dX3_weigh_247
    · skip
      have tc_28 : ¬ z_27.toInt < x26_6.toInt := fun h => c_28 ((fa_lt _ _).mpr h)
      refine lv_iconst (v := 0) hx hb dX3_weigh_86 (by decide) ?_
      refine lv_iload_n hx hb dX3_weigh_87 rfl (lv_at hl 3 rfl) ?_
      refine lv_iload hx hb dX3_weigh_88 (lv_at hl 0 rfl) ?_
      refine lv_isub hx hb dX3_weigh_90 ?_
      refine lv_topi (fun z_29 ez_29 => ?_)
      refine va_mmax hx hb (by rw [hml]; exact hl.1.symm) hown (hts _ ml_X3_39) (hts _ st_math_max) (hts _ ini_J9) (hts _ co_math_max) (Nat.le_of_ble_eq_true rfl) (Nat.le_of_ble_eq_true rfl) (Nat.le_of_ble_eq_true rfl) (Nat.le_of_ble_eq_true rfl) dX3_weigh_91 ?_
      refine lv_topi (fun z_30 ez_30 => ?_)
      have tz_30 : (0 ≤ z_30.toInt ∧ z_29.toInt ≤ z_30.toInt ∧ (z_30.toInt = 0 ∨ z_30.toInt = z_29.toInt)) := mmax_t ez_30
      refine lv_i2l hx hb dX3_weigh_94 rfl ?_
      refine lv_topl (fun z_31 ez_31 => ?_)
      have tz_31 : z_31.toInt = z_30.toInt := by rw [ez_31]; exact wide_t z_30
      have bz_31 := max_t z_30
      refine lv_lstore (lv' := [(7, .long z_31), (6, .int x26_6), (5, .int r_24), (4, .int r_21), (3, .int r_18), (2, .int z_11), (0, .ref a), (1, .int v)]) hx hb dX3_weigh_95 hl (by decide) rfl (fun ls hl => ?_)
      refine lv_iconst (v := 0) hx hb dX3_weigh_97 (by decide) ?_
      refine lv_iload hx hb dX3_weigh_98 (lv_at hl 1 rfl) ?_
      refine lv_iload_n hx hb dX3_weigh_100 rfl (lv_at hl 4 rfl) ?_
      refine lv_isub hx hb dX3_weigh_101 ?_
      refine lv_topi (fun z_32 ez_32 => ?_)
      refine va_mmax hx hb (by rw [hml]; exact hl.1.symm) hown (hts _ ml_X3_39) (hts _ st_math_max) (hts _ ini_J9) (hts _ co_math_max) (Nat.le_of_ble_eq_true rfl) (Nat.le_of_ble_eq_true rfl) (Nat.le_of_ble_eq_true rfl) (Nat.le_of_ble_eq_true rfl) dX3_weigh_102 ?_
      refine lv_topi (fun z_33 ez_33 => ?_)
      have tz_33 : (0 ≤ z_33.toInt ∧ z_32.toInt ≤ z_33.toInt ∧ (z_33.toInt = 0 ∨ z_33.toInt = z_32.toInt)) := mmax_t ez_33
      refine lv_i2l hx hb dX3_weigh_105 rfl ?_
      refine lv_topl (fun z_34 ez_34 => ?_)
      have tz_34 : z_34.toInt = z_33.toInt := by rw [ez_34]; exact wide_t z_33
      have bz_34 := max_t z_33
      refine lv_lstore (lv' := [(9, .long z_34), (7, .long z_31), (6, .int x26_6), (5, .int r_24), (4, .int r_21), (3, .int r_18), (2, .int z_11), (0, .ref a), (1, .int v)]) hx hb dX3_weigh_106 hl (by decide) rfl (fun ls hl => ?_)
      refine lv_ldc2 (v := 1000) hx hb hown (hts _ kl_X3_60) dX3_weigh_108 ?_
      refine lv_aload_n hx hb dX3_weigh_111 rfl (lv_at hl 7 rfl) ?_
      refine t_getr cf_4 hx hb hts hown hK hT h_a (k := 3) (P := fun q => τ q = 7) rfl (fun _ h9 => h9) fl_X3_25 (fun _ h9 => h9) dX3_weigh_112 (fun q_35 eq_35 hq_35 => ?_)
      have w_36 : q_1 = q_35 := Option.some.inj (eq_1.symm.trans ((hF.r h_a (by decide) rfl _).symm.trans eq_35))
      subst w_36
      refine t_getr cf_7 hx hb hts hown hK hT hq_1 (k := 15) (P := fun q => τ q = 26) rfl (fun _ h9 => h9) fl_X3_103 (fun _ h9 => h9) dX3_weigh_115 (fun q_37 eq_37 hq_37 => ?_)
      have eq_37 := (hF.r hq_1 (by decide) rfl _).symm.trans eq_37
      refine lv_aload_n hx hb dX3_weigh_118 rfl (lv_at hl 7 rfl) ?_
      refine t_geti cf_4 hx hb hts hown hK hT h_a (k := 5) rfl fl_X3_36 (fun _ h9 => h9) dX3_weigh_119 (fun z_38 ez_38 rz_38 => ?_)
      have w_39 : z_3 = z_38 := ez_3.trans (ez_38.trans (hF.i h_a (by decide) rfl _)).symm
      subst w_39
      refine t_iald (n := 3) (i := z_3) rfl (by decide) hx hb hK hT hq_37 (hT.len hq_37 (by decide)) ⟨by omega, by omega⟩ dX3_weigh_122 (fun z_40 ez_40 rz_40 => ?_)
      have ez_40 : z_40 = G.1 q_37 z_3.toNatClampNeg := ez_40.trans (hF.i hq_37 (by decide) rfl _)
      refine lv_i2l hx hb dX3_weigh_123 rfl ?_
      refine lv_topl (fun z_41 ez_41 => ?_)
      have tz_41 : z_41.toInt = z_40.toInt := by rw [ez_41]; exact wide_t z_40
      have az_41 := min_t z_40
      have bz_41 := max_t z_40
      refine lv_lload hx hb dX3_weigh_124 (lv_at hl 1 rfl) ?_
      refine lv_lmul hx hb dX3_weigh_126 ?_
      refine lv_topl (fun z_42 ez_42 => ?_)
      refine lv_aload_n hx hb dX3_weigh_127 rfl (lv_at hl 7 rfl) ?_
      refine t_getr cf_4 hx hb hts hown hK hT h_a (k := 3) (P := fun q => τ q = 7) rfl (fun _ h9 => h9) fl_X3_25 (fun _ h9 => h9) dX3_weigh_128 (fun q_43 eq_43 hq_43 => ?_)
      have w_44 : q_1 = q_43 := Option.some.inj (eq_1.symm.trans ((hF.r h_a (by decide) rfl _).symm.trans eq_43))
      subst w_44
      refine t_getr cf_7 hx hb hts hown hK hT hq_1 (k := 16) (P := fun q => τ q = 26) rfl (fun _ h9 => h9) fl_X3_71 (fun _ h9 => h9) dX3_weigh_131 (fun q_45 eq_45 hq_45 => ?_)
      have eq_45 := (hF.r hq_1 (by decide) rfl _).symm.trans eq_45
      refine lv_aload_n hx hb dX3_weigh_134 rfl (lv_at hl 7 rfl) ?_
      refine t_geti cf_4 hx hb hts hown hK hT h_a (k := 5) rfl fl_X3_36 (fun _ h9 => h9) dX3_weigh_135 (fun z_46 ez_46 rz_46 => ?_)
      have w_47 : z_3 = z_46 := ez_3.trans (ez_46.trans (hF.i h_a (by decide) rfl _)).symm
      subst w_47
      refine t_iald (n := 3) (i := z_3) rfl (by decide) hx hb hK hT hq_45 (hT.len hq_45 (by decide)) ⟨by omega, by omega⟩ dX3_weigh_138 (fun z_48 ez_48 rz_48 => ?_)
      have ez_48 : z_48 = G.1 q_45 z_3.toNatClampNeg := ez_48.trans (hF.i hq_45 (by decide) rfl _)
      refine lv_i2l hx hb dX3_weigh_139 rfl ?_
      refine lv_topl (fun z_49 ez_49 => ?_)
      have tz_49 : z_49.toInt = z_48.toInt := by rw [ez_49]; exact wide_t z_48
      have az_49 := min_t z_48
      have bz_49 := max_t z_48
      refine lv_lload hx hb dX3_weigh_140 (lv_at hl 0 rfl) ?_
      refine lv_lmul hx hb dX3_weigh_142 ?_
      refine lv_topl (fun z_50 ez_50 => ?_)
      refine lv_ladd hx hb dX3_weigh_143 ?_
      refine lv_topl (fun z_51 ez_51 => ?_)
      refine lv_lmul hx hb dX3_weigh_144 ?_
      refine lv_topl (fun z_52 ez_52 => ?_)
      refine lv_lstore (lv' := [(11, .long z_52), (9, .long z_34), (7, .long z_31), (6, .int x26_6), (5, .int r_24), (4, .int r_21), (3, .int r_18), (2, .int z_11), (0, .ref a), (1, .int v)]) hx hb dX3_weigh_145 hl (by decide) rfl (fun ls hl => ?_)
      refine lv_iload_n hx hb dX3_weigh_147 rfl (lv_at hl 7 rfl) ?_
      refine lv_i2l hx hb dX3_weigh_148 rfl ?_
      refine lv_topl (fun z_53 ez_53 => ?_)
      have tz_53 : z_53.toInt = z_11.toInt := by rw [ez_53]; exact wide_t z_11
      have az_53 := min_t z_11
      have bz_53 := max_t z_11
      refine lv_lload hx hb dX3_weigh_149 (lv_at hl 0 rfl) ?_
      refine lv_lmul hx hb dX3_weigh_151 ?_
      refine lv_topl (fun z_54 ez_54 => ?_)
      refine lv_bipush (v := 100) hx hb dX3_weigh_152 (by decide) ?_
      refine lv_iload_n hx hb dX3_weigh_154 rfl (lv_at hl 7 rfl) ?_
      refine lv_isub hx hb dX3_weigh_155 ?_
      refine lv_topi (fun z_55 ez_55 => ?_)
      refine lv_i2l hx hb dX3_weigh_156 rfl ?_
      refine lv_topl (fun z_56 ez_56 => ?_)
      have tz_56 : z_56.toInt = z_55.toInt := by rw [ez_56]; exact wide_t z_55
      have az_56 := min_t z_55
      have bz_56 := max_t z_55
      refine lv_aload_n hx hb dX3_weigh_157 rfl (lv_at hl 8 rfl) ?_
      refine t_getr cf_4 hx hb hts hown hK hT h_a (k := 0) (P := fun q => τ q = 30) rfl (fun _ h9 => h9) fl_X3_9 (fun _ h9 => h9) dX3_weigh_158 (fun q_57 eq_57 hq_57 => ?_)
      have eq_57 := (hF.r h_a (by decide) rfl _).symm.trans eq_57
      refine lv_iload hx hb dX3_weigh_161 (lv_at hl 3 rfl) ?_
      refine t_lald (n := 601) (i := x26_6) rfl (by decide) hx hb hK hT hq_57 (hT.len hq_57 (by decide)) ⟨by omega, by omega⟩ dX3_weigh_163 (fun z_58 ez_58 => ?_)
      refine lv_lmul hx hb dX3_weigh_164 ?_
      refine lv_topl (fun z_59 ez_59 => ?_)
      refine lv_ladd hx hb dX3_weigh_165 ?_
      refine lv_topl (fun z_60 ez_60 => ?_)
      refine lv_ldc2 (v := 100) hx hb hown (hts _ kl_X3_106) dX3_weigh_166 ?_
      refine lv_ldiv hx hb dX3_weigh_169 (by decide) ?_
      refine lv_topl (fun z_61 ez_61 => ?_)
      refine lv_lstore (lv' := [(13, .long z_61), (11, .long z_52), (9, .long z_34), (7, .long z_31), (6, .int x26_6), (5, .int r_24), (4, .int r_21), (3, .int r_18), (2, .int z_11), (0, .ref a), (1, .int v)]) hx hb dX3_weigh_170 hl (by decide) rfl (fun ls hl => ?_)
      refine lv_aload_n hx hb dX3_weigh_172 rfl (lv_at hl 9 rfl) ?_
      refine t_getr cf_4 hx hb hts hown hK hT h_a (k := 1) (P := fun q => τ q = 30) rfl (fun _ h9 => h9) fl_X3_15 (fun _ h9 => h9) dX3_weigh_173 (fun q_62 eq_62 hq_62 => ?_)
      have eq_62 := (hF.r h_a (by decide) rfl _).symm.trans eq_62
      refine lv_iload hx hb dX3_weigh_176 (lv_at hl 4 rfl) ?_
      refine t_lald (n := 601) (i := x26_6) rfl (by decide) hx hb hK hT hq_62 (hT.len hq_62 (by decide)) ⟨by omega, by omega⟩ dX3_weigh_178 (fun z_63 ez_63 => ?_)
      refine lv_lstore (lv' := [(15, .long z_63), (13, .long z_61), (11, .long z_52), (9, .long z_34), (7, .long z_31), (6, .int x26_6), (5, .int r_24), (4, .int r_21), (3, .int r_18), (2, .int z_11), (0, .ref a), (1, .int v)]) hx hb dX3_weigh_179 hl (by decide) rfl (fun ls hl => ?_)
      refine lv_aload_n hx hb dX3_weigh_181 rfl (lv_at hl 10 rfl) ?_
      refine t_getr cf_4 hx hb hts hown hK hT h_a (k := 0) (P := fun q => τ q = 30) rfl (fun _ h9 => h9) fl_X3_9 (fun _ h9 => h9) dX3_weigh_182 (fun q_64 eq_64 hq_64 => ?_)
      have w_65 : q_57 = q_64 := Option.some.inj (eq_57.symm.trans ((hF.r h_a (by decide) rfl _).symm.trans eq_64))
      subst w_65
      refine lv_iload hx hb dX3_weigh_185 (lv_at hl 5 rfl) ?_
      refine lv_iload hx hb dX3_weigh_187 (lv_at hl 7 rfl) ?_
      refine lv_i2l hx hb dX3_weigh_189 rfl ?_
      refine lv_topl (fun z_66 ez_66 => ?_)
      have tz_66 : z_66.toInt = r_21.toInt := by rw [ez_66]; exact wide_t r_21
      have az_66 := min_t r_21
      have bz_66 := max_t r_21
      refine lv_lload hx hb dX3_weigh_190 (lv_at hl 1 rfl) ?_
      refine lv_lmul hx hb dX3_weigh_192 ?_
      refine lv_topl (fun z_67 ez_67 => ?_)
      refine lv_bipush (v := 100) hx hb dX3_weigh_193 (by decide) ?_
      refine lv_iload hx hb dX3_weigh_195 (lv_at hl 7 rfl) ?_
      refine lv_isub hx hb dX3_weigh_197 ?_
      refine lv_topi (fun z_68 ez_68 => ?_)
      refine lv_i2l hx hb dX3_weigh_198 rfl ?_
      refine lv_topl (fun z_69 ez_69 => ?_)
      have tz_69 : z_69.toInt = z_68.toInt := by rw [ez_69]; exact wide_t z_68
      have az_69 := min_t z_68
      have bz_69 := max_t z_68
      refine lv_lload hx hb dX3_weigh_199 (lv_at hl 0 rfl) ?_
      refine lv_lmul hx hb dX3_weigh_201 ?_
      refine lv_topl (fun z_70 ez_70 => ?_)
      refine lv_ladd hx hb dX3_weigh_202 ?_
      refine lv_topl (fun z_71 ez_71 => ?_)
      refine lv_ldc2 (v := 100) hx hb hown (hts _ kl_X3_106) dX3_weigh_203 ?_
      refine lv_ldiv hx hb dX3_weigh_206 (by decide) ?_
      refine lv_topl (fun z_72 ez_72 => ?_)
      refine t_last (n := 601) (i := x26_6) (x := z_72) rfl (by decide) hx hb hK hT hS hq_57 (hT.len hq_57 (by decide)) ⟨by omega, by omega⟩ dX3_weigh_207 (fun H locs G_73 eG_73 hT hS => ?_)
      have hF := hF.wL eG_73 hq_57 rfl
      refine lv_aload_n hx hb dX3_weigh_208 rfl (lv_at hl 10 rfl) ?_
      refine t_getr cf_4 hx hb hts hown hK hT h_a (k := 1) (P := fun q => τ q = 30) rfl (fun _ h9 => h9) fl_X3_15 (fun _ h9 => h9) dX3_weigh_209 (fun q_74 eq_74 hq_74 => ?_)
      have w_75 : q_62 = q_74 := Option.some.inj (eq_62.symm.trans ((hF.r h_a (by decide) rfl _).symm.trans eq_74))
      subst w_75
      refine lv_iload hx hb dX3_weigh_212 (lv_at hl 5 rfl) ?_
      refine lv_iload hx hb dX3_weigh_214 (lv_at hl 6 rfl) ?_
      refine lv_i2l hx hb dX3_weigh_216 rfl ?_
      refine lv_topl (fun z_76 ez_76 => ?_)
      have tz_76 : z_76.toInt = r_24.toInt := by rw [ez_76]; exact wide_t r_24
      have az_76 := min_t r_24
      have bz_76 := max_t r_24
      refine lv_lload hx hb dX3_weigh_217 (lv_at hl 1 rfl) ?_
      refine lv_lmul hx hb dX3_weigh_219 ?_
      refine lv_topl (fun z_77 ez_77 => ?_)
      refine lv_bipush (v := 100) hx hb dX3_weigh_220 (by decide) ?_
      refine lv_iload hx hb dX3_weigh_222 (lv_at hl 6 rfl) ?_
      refine lv_isub hx hb dX3_weigh_224 ?_
      refine lv_topi (fun z_78 ez_78 => ?_)
      refine lv_i2l hx hb dX3_weigh_225 rfl ?_
      refine lv_topl (fun z_79 ez_79 => ?_)
      have tz_79 : z_79.toInt = z_78.toInt := by rw [ez_79]; exact wide_t z_78
      have az_79 := min_t z_78
      have bz_79 := max_t z_78
      refine lv_lload hx hb dX3_weigh_226 (lv_at hl 0 rfl) ?_
      refine lv_lmul hx hb dX3_weigh_228 ?_
      refine lv_topl (fun z_80 ez_80 => ?_)
      refine lv_ladd hx hb dX3_weigh_229 ?_
      refine lv_topl (fun z_81 ez_81 => ?_)
      refine lv_ldc2 (v := 100) hx hb hown (hts _ kl_X3_106) dX3_weigh_230 ?_
      refine lv_ldiv hx hb dX3_weigh_233 (by decide) ?_
      refine lv_topl (fun z_82 ez_82 => ?_)
      refine t_last (n := 601) (i := x26_6) (x := z_82) rfl (by decide) hx hb hK hT hS hq_62 (hT.len hq_62 (by decide)) ⟨by omega, by omega⟩ dX3_weigh_234 (fun H locs G_83 eG_83 hT hS => ?_)
      have hF := hF.wL eG_83 hq_62 rfl
      refine lv_iload hx hb dX3_weigh_235 (lv_at hl 5 rfl) ?_
      refine lv_aload_n hx hb dX3_weigh_237 rfl (lv_at hl 10 rfl) ?_
      refine t_geti cf_4 hx hb hts hown hK hT h_a (k := 8) rfl fl_X3_29 (fun _ h9 => h9) dX3_weigh_238 (fun z_84 ez_84 rz_84 => ?_)
      have ez_84 : z_84 = G_83.1 a 8 := ez_84
      have rz_84 : 1 ≤ z_84.toInt ∧ z_84.toInt ≤ 50 := rz_84
      have ez_84 : z_84 = G.1 a 8 := ez_84.trans (hF.i h_a (by decide) rfl _)
      refine lv_iadd hx hb dX3_weigh_241 ?_
      refine lv_topi (fun z_85 ez_85 => ?_)
      have tz_85 : z_85.toInt = x26_6.toInt + z_84.toInt := add_t ez_85 (show -2147483648 ≤ x26_6.toInt + z_84.toInt by omega) (show x26_6.toInt + z_84.toInt < 2147483648 by omega)
      refine lv_istore (lv' := [(6, .int z_85), (15, .long z_63), (13, .long z_61), (11, .long z_52), (9, .long z_34), (7, .long z_31), (5, .int r_24), (4, .int r_21), (3, .int r_18), (2, .int z_11), (0, .ref a), (1, .int v)]) hx hb dX3_weigh_242 hl (by decide) rfl (fun ls hl => ?_)
      refine lv_goto (tgt := 77) hx hb dX3_weigh_244 (by decide) ?_
      exact ih26 (z_85, G_83) _ _ _ (by show (700 - z_85.toInt).toNat < (700 - x26_6.toInt).toNat; omega) ⟨(by show 0 ≤ z_85.toInt; omega), (by show z_85.toInt ≤ 700; omega), hF, hT, hS, lv_sub hl [0, 6, 7, 8, 9, 10, 11] rfl⟩
  · skip
    have er_4 := hr_4_1
    subst er_4
    refine W.eq (g2 := F0 m 15 ls [.int 0]) rfl ?_
    refine lv_if_ne (tgt := 19) hx hb dX3_weigh_15 (by decide) (fun c_86 => absurd rfl c_86) (fun _ => ?_)
    exact ret_v hx hb hr hlocks ⟨⟨hS.1, hS.2.1⟩, G, hF, ⟨rfl, trivial⟩, hT⟩ hS.2.2 (Nat.le_of_ble_eq_true rfl) (Nat.le_of_ble_eq_true rfl) dX3_weigh_18
set_option maxHeartbeats 4000000 in
set_option maxRecDepth 100000 in
theorem t_X3_fewestOf (l : Launch) (D : va_G) (cy : Nat → ClassId) (base : Nat) (τ : Nat → Nat) (G : Gh) (a : Nat) (h_a : τ a = 4) (b : Nat) (h_b : τ b = 30) (v : Int32) (r_v : 0 ≤ v.toInt ∧ v.toInt ≤ 600) (ld : Int32) (e_ld : ld = G.1 a 8) (r_ld : 1 ≤ ld.toInt ∧ ld.toInt ≤ 50) : MM l yX3_fewestOf cX3_fewestOf 8 (some .int) 0 0 0 D cy [.ref a, .ref b, .int v] (PT D cy base τ G) (PuI (fun r => 0 ≤ r.toInt ∧ r.toInt ≤ 9 ∧ (0 ≤ v.toInt + r.toInt * ld.toInt) ∧ (v.toInt + r.toInt * ld.toInt ≤ 600))) noF := by
  refine MM.of (by decide) (Nat.le_of_ble_eq_true rfl) ?_
  intro p e s m below meth c C hPT ls hl
  obtain ⟨hx, hb, hr, hml, hown, hts, hlocks, hK, hnm⟩ := C
  obtain ⟨hZ, hT⟩ := hPT
  have hS : va_S (RA base) s.heap s.heap [] := va_S.rf
  have hl : lv_has ls 8 [(0, .ref a), (1, .ref b), (2, .int v)] := hl
  refine lv_iconst (v := 0) hx hb dX3_fewestOf_0 (by decide) ?_
  refine lv_istore_n (lv' := [(3, .int 0), (0, .ref a), (1, .ref b), (2, .int v)]) hx hb dX3_fewestOf_1 rfl hl (by decide) rfl (fun ls hl => ?_)
  refine lv_iload_n hx hb dX3_fewestOf_2 rfl (lv_at hl 3 rfl) ?_
  refine lv_if_lt (tgt := 20) hx hb dX3_fewestOf_3 (by decide) (fun c_1 => ?_) (fun c_1 => ?_)
  · skip
    have tc_1 : v.toInt < 0 := (fa_lt _ _).mp c_1
    exfalso; omega
  · skip
    have tc_1 : ¬ v.toInt < 0 := fun h => c_1 ((fa_lt _ _).mpr h)
    refine lv_iload_n hx hb dX3_fewestOf_6 rfl (lv_at hl 3 rfl) ?_
    refine lv_aload_n hx hb dX3_fewestOf_7 rfl (lv_at hl 1 rfl) ?_
    refine t_geti cf_4 hx hb hts hown hK hT h_a (k := 7) rfl fl_X3_49 (fun _ h9 => h9) dX3_fewestOf_8 (fun z_2 ez_2 rz_2 => ?_)
    have ez_2 : z_2 = G.1 a 7 := ez_2
    have rz_2 : -1 ≤ z_2.toInt ∧ z_2.toInt ≤ 600 := rz_2
    refine lv_icmp_gt (tgt := 20) hx hb dX3_fewestOf_11 (by decide) (fun c_3 => ?_) (fun c_3 => ?_)
    · skip
      have tc_3 : z_2.toInt < v.toInt := (fa_lt _ _).mp c_3
      refine lv_iload_n hx hb dX3_fewestOf_20 rfl (lv_at hl 0 rfl) ?_
      exact ret_i hx hb hr hlocks ⟨rfl, _, rfl, ⟨(by decide), (by decide), (by show 0 ≤ v.toInt + 0 * ld.toInt; first | omega | assumption), (by show v.toInt + 0 * ld.toInt ≤ 600; first | omega | assumption)⟩⟩ (fun _ h => absurd h List.not_mem_nil) (Nat.le_refl _) (Nat.le_refl _) dX3_fewestOf_21
    · skip
      have tc_3 : ¬ z_2.toInt < v.toInt := fun h => c_3 ((fa_lt _ _).mpr h)
      refine lv_iload_n hx hb dX3_fewestOf_14 rfl (lv_at hl 3 rfl) ?_
      refine lv_aload_n hx hb dX3_fewestOf_15 rfl (lv_at hl 2 rfl) ?_
      refine t_alen (v := 601) rfl (by decide) hx hb hK hT h_b rfl (by rw [show _ = 601 from (hT.len h_b (by decide))]; rfl) dX3_fewestOf_16 ?_
      refine lv_icmp_lt (tgt := 22) hx hb dX3_fewestOf_17 (by decide) (fun c_4 => ?_) (fun c_4 => ?_)
      · skip
        have tc_4 : v.toInt < 601 := (fa_lt _ _).mp c_4
        refine lv_aload_n hx hb dX3_fewestOf_22 rfl (lv_at hl 2 rfl) ?_
        refine lv_iload_n hx hb dX3_fewestOf_23 rfl (lv_at hl 3 rfl) ?_
        refine t_lald (n := 601) (i := v) rfl (by decide) hx hb hK hT h_b (hT.len h_b (by decide)) ⟨by omega, by omega⟩ dX3_fewestOf_24 (fun z_5 ez_5 => ?_)
        refine lv_lstore (lv' := [(4, .long z_5), (3, .int 0), (0, .ref a), (1, .ref b), (2, .int v)]) hx hb dX3_fewestOf_25 hl (by decide) rfl (fun ls hl => ?_)
        refine lv_iconst (v := 1) hx hb dX3_fewestOf_27 (by decide) ?_
        refine lv_istore (lv' := [(6, .int 1), (4, .long z_5), (3, .int 0), (0, .ref a), (1, .ref b), (2, .int v)]) hx hb dX3_fewestOf_28 hl (by decide) rfl (fun ls hl => ?_)
        refine W.loop (σ := Int32 × Int64 × Int32) (fun w6 H locs ls => 0 ≤ w6.1.toInt ∧ w6.1.toInt ≤ 9 ∧ 1 ≤ w6.2.2.toInt ∧ w6.2.2.toInt ≤ 10 ∧ (0 ≤ v.toInt + w6.1.toInt * ld.toInt) ∧ (v.toInt + w6.1.toInt * ld.toInt ≤ 600) ∧ H = s.heap ∧ locs = [] ∧ lv_has ls 8 [(3, .int w6.1), (4, .long w6.2.1), (6, .int w6.2.2), (0, .ref a), (1, .ref b), (2, .int v)]) (fun w6 => (10 - w6.2.2.toInt).toNat) ?_ ((0 : Int32), z_5, (1 : Int32)) _ _ _ ⟨(by show 0 ≤ (0 : Int32).toInt; decide), (by show (0 : Int32).toInt ≤ 9; decide), (by show 1 ≤ (1 : Int32).toInt; decide), (by show (1 : Int32).toInt ≤ 10; decide), (by show 0 ≤ v.toInt + (0 : Int) * ld.toInt; first | omega | assumption | exact rfl), (by show v.toInt + (0 : Int) * ld.toInt ≤ 600; first | omega | assumption | exact rfl), rfl, rfl, lv_sub hl [2, 1, 0, 3, 4, 5] rfl⟩
        intro w6 H locs ls hI ih6
        obtain ⟨x6_3, x6_4, x6_6⟩ := w6
        obtain ⟨i6_0, i6_1, i6_2, i6_3, i6_4, i6_5, rfl, rfl, hl⟩ := hI
        have i6_0 : 0 ≤ x6_3.toInt := i6_0
        have i6_1 : x6_3.toInt ≤ 9 := i6_1
        have i6_2 : 1 ≤ x6_6.toInt := i6_2
        have i6_3 : x6_6.toInt ≤ 10 := i6_3
        have i6_4 : (0 ≤ v.toInt + x6_3.toInt * ld.toInt) := i6_4
        have i6_5 : (v.toInt + x6_3.toInt * ld.toInt ≤ 600) := i6_5
        have hl : lv_has ls 8 [(3, .int x6_3), (4, .long x6_4), (6, .int x6_6), (0, .ref a), (1, .ref b), (2, .int v)] := hl
        refine lv_iload hx hb dX3_fewestOf_30 (lv_at hl 2 rfl) ?_
        refine lv_aload_n hx hb dX3_fewestOf_32 rfl (lv_at hl 3 rfl) ?_
        refine t_getr cf_4 hx hb hts hown hK hT h_a (k := 3) (P := fun q => τ q = 7) rfl (fun _ h9 => h9) fl_X3_25 (fun _ h9 => h9) dX3_fewestOf_33 (fun q_7 eq_7 hq_7 => ?_)
        refine t_geti cf_7 hx hb hts hown hK hT hq_7 (k := 8) rfl fl_X3_108 (fun _ h9 => h9) dX3_fewestOf_36 (fun z_8 ez_8 rz_8 => ?_)
        have ez_8 : z_8 = G.1 q_7 8 := ez_8
        have rz_8 : 1 ≤ z_8.toInt ∧ z_8.toInt ≤ 9 := rz_8
        refine lv_icmp_gt (tgt := 112) hx hb dX3_fewestOf_39 (by decide) (fun c_9 => ?_) (fun c_9 => ?_)
        · skip
          have tc_9 : z_8.toInt < x6_6.toInt := (fa_lt _ _).mp c_9
          refine lv_iload_n hx hb dX3_fewestOf_112 rfl (lv_at hl 0 rfl) ?_
          exact ret_i hx hb hr hlocks ⟨rfl, _, rfl, ⟨(by omega), (by omega), (by show 0 ≤ v.toInt + x6_3.toInt * ld.toInt; first | omega | assumption), (by show v.toInt + x6_3.toInt * ld.toInt ≤ 600; first | omega | assumption)⟩⟩ (fun _ h => absurd h List.not_mem_nil) (Nat.le_refl _) (Nat.le_refl _) dX3_fewestOf_113
        · skip
          have tc_9 : ¬ z_8.toInt < x6_6.toInt := fun h => c_9 ((fa_lt _ _).mpr h)
          refine lv_iload_n hx hb dX3_fewestOf_42 rfl (lv_at hl 5 rfl) ?_
          refine lv_iload hx hb dX3_fewestOf_43 (lv_at hl 2 rfl) ?_
          refine lv_aload_n hx hb dX3_fewestOf_45 rfl (lv_at hl 3 rfl) ?_
          refine t_geti cf_4 hx hb hts hown hK hT h_a (k := 8) rfl fl_X3_29 (fun _ h9 => h9) dX3_fewestOf_46 (fun z_10 ez_10 rz_10 => ?_)
          have w_11 : ld = z_10 := e_ld.trans ez_10.symm
          subst w_11
          refine lv_imul hx hb dX3_fewestOf_49 ?_
          refine lv_topi (fun z_12 ez_12 => ?_)
          have tz_12 : 0 ≤ z_12.toInt ∧ z_12.toInt ≤ 450 ∧ z_12.toInt = x6_6.toInt * ld.toInt := mulb_t (a := 9) (b := 50) ez_12 (by omega) (by omega) (by omega) (by omega) (by decide)
          refine lv_iadd hx hb dX3_fewestOf_50 ?_
          refine lv_topi (fun z_13 ez_13 => ?_)
          have tz_13 : z_13.toInt = v.toInt + z_12.toInt := add_t ez_13 (show -2147483648 ≤ v.toInt + z_12.toInt by omega) (show v.toInt + z_12.toInt < 2147483648 by omega)
          refine lv_istore (lv' := [(7, .int z_13), (3, .int x6_3), (4, .long x6_4), (6, .int x6_6), (0, .ref a), (1, .ref b), (2, .int v)]) hx hb dX3_fewestOf_51 hl (by decide) rfl (fun ls hl => ?_)
          refine lv_iload hx hb dX3_fewestOf_53 (lv_at hl 0 rfl) ?_
          refine lv_aload_n hx hb dX3_fewestOf_55 rfl (lv_at hl 4 rfl) ?_
          refine t_geti cf_4 hx hb hts hown hK hT h_a (k := 7) rfl fl_X3_49 (fun _ h9 => h9) dX3_fewestOf_56 (fun z_14 ez_14 rz_14 => ?_)
          have w_15 : z_2 = z_14 := ez_2.trans ez_14.symm
          subst w_15
          refine lv_icmp_gt (tgt := 106) hx hb dX3_fewestOf_59 (by decide) (fun c_16 => ?_) (fun c_16 => ?_)
          · skip
            have tc_16 : z_2.toInt < z_13.toInt := (fa_lt _ _).mp c_16
            obtain ⟨z_17, ez_17⟩ : ∃ y : Int32, y = x6_6 + 1 := ⟨_, rfl⟩
            have tz_17 : z_17.toInt = x6_6.toInt + 1 := add_t ez_17 (show -2147483648 ≤ x6_6.toInt + 1 by omega) (show x6_6.toInt + 1 < 2147483648 by omega)
            refine lv_iinc (v := z_17) (lv' := [(6, .int z_17), (7, .int z_13), (3, .int x6_3), (4, .long x6_4), (0, .ref a), (1, .ref b), (2, .int v)]) hx hb dX3_fewestOf_106 hl (k := 3) rfl (by rw [ez_17]; rfl) (by decide) rfl (fun ls hl => ?_)
            refine lv_goto (tgt := 30) hx hb dX3_fewestOf_109 (by decide) ?_
            exact ih6 (x6_3, x6_4, z_17) _ _ _ (by show (10 - z_17.toInt).toNat < (10 - x6_6.toInt).toNat; omega) ⟨(by show 0 ≤ x6_3.toInt; omega), (by show x6_3.toInt ≤ 9; omega), (by show 1 ≤ z_17.toInt; omega), (by show z_17.toInt ≤ 10; omega), by show 0 ≤ v.toInt + x6_3.toInt * ld.toInt; first | omega | assumption, by show v.toInt + x6_3.toInt * ld.toInt ≤ 600; first | omega | assumption, rfl, rfl, lv_sub hl [2, 3, 0, 4, 5, 6] rfl⟩
          · skip
            have tc_16 : ¬ z_2.toInt < z_13.toInt := fun h => c_16 ((fa_lt _ _).mpr h)
            refine lv_iload hx hb dX3_fewestOf_62 (lv_at hl 0 rfl) ?_
            refine lv_aload_n hx hb dX3_fewestOf_64 rfl (lv_at hl 5 rfl) ?_
            refine t_alen (v := 601) rfl (by decide) hx hb hK hT h_b rfl (by rw [show _ = 601 from (hT.len h_b (by decide))]; rfl) dX3_fewestOf_65 ?_
            refine lv_icmp_ge (tgt := 106) hx hb dX3_fewestOf_66 (by decide) (fun c_18 => ?_) (fun c_18 => ?_)
            · skip
              have tc_18 : 601 ≤ z_13.toInt := (fa_le _ _).mp c_18
              exfalso; omega
            · skip
              have tc_18 : ¬ 601 ≤ z_13.toInt := fun h => c_18 ((fa_le _ _).mpr h)
              refine lv_iload hx hb dX3_fewestOf_69 (lv_at hl 3 rfl) ?_
              refine lv_i2l hx hb dX3_fewestOf_71 rfl ?_
              refine lv_topl (fun z_19 ez_19 => ?_)
              have tz_19 : z_19.toInt = x6_6.toInt := by rw [ez_19]; exact wide_t x6_6
              refine lv_aload_n hx hb dX3_fewestOf_72 rfl (lv_at hl 4 rfl) ?_
              refine t_getl cf_4 hx hb hts hown hK hT h_a (k := 9) rfl fl_X3_68 (fun _ h9 => h9) dX3_fewestOf_73 (fun z_20 ez_20 => ?_)
              refine lv_lmul hx hb dX3_fewestOf_76 ?_
              refine lv_topl (fun z_21 ez_21 => ?_)
              refine lv_aload_n hx hb dX3_fewestOf_77 rfl (lv_at hl 5 rfl) ?_
              refine lv_iload hx hb dX3_fewestOf_78 (lv_at hl 0 rfl) ?_
              refine t_lald (n := 601) (i := z_13) rfl (by decide) hx hb hK hT h_b (hT.len h_b (by decide)) ⟨by omega, by omega⟩ dX3_fewestOf_80 (fun z_22 ez_22 => ?_)
              refine lv_ladd hx hb dX3_fewestOf_81 ?_
              refine lv_topl (fun z_23 ez_23 => ?_)
              refine lv_lload hx hb dX3_fewestOf_82 (lv_at hl 2 rfl) ?_
              refine W.lcmp hx hb dX3_fewestOf_84 ?_
              refine lv_topi (fun z_24 ez_24 => ?_)
              have tz_24 : (z_24.toInt < 0 ↔ z_23.toInt < x6_4.toInt) ∧ (0 < z_24.toInt ↔ x6_4.toInt < z_23.toInt) ∧ -1 ≤ z_24.toInt ∧ z_24.toInt ≤ 1 := cmp_t ez_24
              refine lv_if_ge (tgt := 106) hx hb dX3_fewestOf_85 (by decide) (fun c_25 => ?_) (fun c_25 => ?_)
              · skip
                have tc_25 : 0 ≤ z_24.toInt := (fa_le _ _).mp c_25
                obtain ⟨z_26, ez_26⟩ : ∃ y : Int32, y = x6_6 + 1 := ⟨_, rfl⟩
                have tz_26 : z_26.toInt = x6_6.toInt + 1 := add_t ez_26 (show -2147483648 ≤ x6_6.toInt + 1 by omega) (show x6_6.toInt + 1 < 2147483648 by omega)
                refine lv_iinc (v := z_26) (lv' := [(6, .int z_26), (7, .int z_13), (3, .int x6_3), (4, .long x6_4), (0, .ref a), (1, .ref b), (2, .int v)]) hx hb dX3_fewestOf_106 hl (k := 3) rfl (by rw [ez_26]; rfl) (by decide) rfl (fun ls hl => ?_)
                refine lv_goto (tgt := 30) hx hb dX3_fewestOf_109 (by decide) ?_
                exact ih6 (x6_3, x6_4, z_26) _ _ _ (by show (10 - z_26.toInt).toNat < (10 - x6_6.toInt).toNat; omega) ⟨(by show 0 ≤ x6_3.toInt; omega), (by show x6_3.toInt ≤ 9; omega), (by show 1 ≤ z_26.toInt; omega), (by show z_26.toInt ≤ 10; omega), by show 0 ≤ v.toInt + x6_3.toInt * ld.toInt; first | omega | assumption, by show v.toInt + x6_3.toInt * ld.toInt ≤ 600; first | omega | assumption, rfl, rfl, lv_sub hl [2, 3, 0, 4, 5, 6] rfl⟩
              · skip
                have tc_25 : ¬ 0 ≤ z_24.toInt := fun h => c_25 ((fa_le _ _).mpr h)
                refine lv_iload hx hb dX3_fewestOf_88 (lv_at hl 3 rfl) ?_
                refine lv_i2l hx hb dX3_fewestOf_90 rfl ?_
                refine lv_topl (fun z_27 ez_27 => ?_)
                have tz_27 : z_27.toInt = x6_6.toInt := by rw [ez_27]; exact wide_t x6_6
                refine lv_aload_n hx hb dX3_fewestOf_91 rfl (lv_at hl 4 rfl) ?_
                refine t_getl cf_4 hx hb hts hown hK hT h_a (k := 9) rfl fl_X3_68 (fun _ h9 => h9) dX3_fewestOf_92 (fun z_28 ez_28 => ?_)
                refine lv_lmul hx hb dX3_fewestOf_95 ?_
                refine lv_topl (fun z_29 ez_29 => ?_)
                refine lv_aload_n hx hb dX3_fewestOf_96 rfl (lv_at hl 5 rfl) ?_
                refine lv_iload hx hb dX3_fewestOf_97 (lv_at hl 0 rfl) ?_
                refine t_lald (n := 601) (i := z_13) rfl (by decide) hx hb hK hT h_b (hT.len h_b (by decide)) ⟨by omega, by omega⟩ dX3_fewestOf_99 (fun z_30 ez_30 => ?_)
                have w_31 : z_22 = z_30 := ez_22.trans ez_30.symm
                subst w_31
                refine lv_ladd hx hb dX3_fewestOf_100 ?_
                refine lv_topl (fun z_32 ez_32 => ?_)
                refine lv_lstore (lv' := [(4, .long z_32), (7, .int z_13), (3, .int x6_3), (6, .int x6_6), (0, .ref a), (1, .ref b), (2, .int v)]) hx hb dX3_fewestOf_101 hl (by decide) rfl (fun ls hl => ?_)
                refine lv_iload hx hb dX3_fewestOf_103 (lv_at hl 3 rfl) ?_
                refine lv_istore_n (lv' := [(3, .int x6_6), (4, .long z_32), (7, .int z_13), (6, .int x6_6), (0, .ref a), (1, .ref b), (2, .int v)]) hx hb dX3_fewestOf_105 rfl hl (by decide) rfl (fun ls hl => ?_)
                obtain ⟨z_33, ez_33⟩ : ∃ y : Int32, y = x6_6 + 1 := ⟨_, rfl⟩
                have tz_33 : z_33.toInt = x6_6.toInt + 1 := add_t ez_33 (show -2147483648 ≤ x6_6.toInt + 1 by omega) (show x6_6.toInt + 1 < 2147483648 by omega)
                refine lv_iinc (v := z_33) (lv' := [(6, .int z_33), (3, .int x6_6), (4, .long z_32), (7, .int z_13), (0, .ref a), (1, .ref b), (2, .int v)]) hx hb dX3_fewestOf_106 hl (k := 3) rfl (by rw [ez_33]; rfl) (by decide) rfl (fun ls hl => ?_)
                refine lv_goto (tgt := 30) hx hb dX3_fewestOf_109 (by decide) ?_
                exact ih6 (x6_6, z_32, z_33) _ _ _ (by show (10 - z_33.toInt).toNat < (10 - x6_6.toInt).toNat; omega) ⟨(by show 0 ≤ x6_6.toInt; omega), (by show x6_6.toInt ≤ 9; omega), (by show 1 ≤ z_33.toInt; omega), (by show z_33.toInt ≤ 10; omega), by show 0 ≤ v.toInt + x6_6.toInt * ld.toInt; first | omega | assumption, by show v.toInt + x6_6.toInt * ld.toInt ≤ 600; first | omega | assumption, rfl, rfl, lv_sub hl [1, 2, 0, 4, 5, 6] rfl⟩
      · skip
        have tc_4 : ¬ v.toInt < 601 := fun h => c_4 ((fa_lt _ _).mpr h)
        exfalso; omega
set_option maxHeartbeats 4000000 in
set_option maxRecDepth 100000 in
theorem t_X3_settle (l : Launch) (D : va_G) (cy : Nat → ClassId) (base : Nat) (τ : Nat → Nat) (G : Gh) (a : Nat) (h_a : τ a = 4) (v : Int32) : MM l yX3_settle cX3_settle 5 none 3 0 0 D cy [.ref a, .int v] (PT D cy base τ G) (QT D cy base τ G [30, 31] (fun v g => v = none ∧ (True))) (RA base) := by
  refine MM.of (by decide) (Nat.le_of_ble_eq_true rfl) ?_
  intro p e s m below meth c C hPT ls hl
  obtain ⟨hx, hb, hr, hml, hown, hts, hlocks, hK, hnm⟩ := C
  obtain ⟨hZ, hT⟩ := hPT
  have hS : va_S (RA base) s.heap s.heap [] := va_S.rf
  have hF : Fr τ [30, 31] G G := Fr.rf
  have hl : lv_has ls 5 [(0, .ref a), (1, .int v)] := hl
  refine lv_aload_n hx hb dX3_settle_0 rfl (lv_at hl 0 rfl) ?_
  refine lv_iload_n hx hb dX3_settle_1 rfl (lv_at hl 1 rfl) ?_
  refine t_callv (runV (As := [.int v]) (rest := []) ⟨hx, hb, hml, hown, hts⟩ (t_X3_weigh l D cy base τ G a h_a v) sV_X3_89 hK (t_recv cf_4 hK hT h_a) ⟨Nat.le_trans hZ hS.1, hT⟩ ⟨Nat.le_of_ble_eq_true rfl, Nat.le_of_ble_eq_true rfl⟩ rfl hl.1 rfl (Nat.le_of_ble_eq_true rfl) dX3_settle_2 ⟨Nat.le_of_ble_eq_true rfl, Nat.le_of_ble_eq_true rfl⟩) hS (fun G_1 H locs hF_1 hr_1 hT hS => ?_)
  have hF := hF.tr hF_1 rfl
  refine lv_aload_n hx hb dX3_settle_5 rfl (lv_at hl 0 rfl) ?_
  refine t_geti cf_4 hx hb hts hown hK hT h_a (k := 6) rfl fl_X3_45 (fun _ h9 => h9) dX3_settle_6 (fun z_2 ez_2 rz_2 => ?_)
  have ez_2 : z_2 = G_1.1 a 6 := ez_2
  have rz_2 : 0 ≤ z_2.toInt ∧ z_2.toInt ≤ 600 := rz_2
  have ez_2 : z_2 = G.1 a 6 := ez_2.trans (hF.i h_a (by decide) rfl _)
  refine lv_istore_n (lv' := [(2, .int z_2), (0, .ref a), (1, .int v)]) hx hb dX3_settle_9 rfl hl (by decide) rfl (fun ls hl => ?_)
  refine W.loop (σ := Int32 × Gh) (fun w3 H locs ls => 0 ≤ w3.1.toInt ∧ w3.1.toInt ≤ 700 ∧ Fr τ [30, 31] G w3.2 ∧ TY D cy base τ w3.2 H ∧ va_S (RA base) s.heap H locs ∧ lv_has ls 5 [(2, .int w3.1), (0, .ref a), (1, .int v)]) (fun w3 => (700 - w3.1.toInt).toNat) ?_ (z_2, G_1) _ _ _ ⟨(by show 0 ≤ z_2.toInt; omega), (by show z_2.toInt ≤ 700; omega), hF, hT, hS, lv_sub hl [0, 1, 2] rfl⟩
  intro w3 H locs ls hI ih3
  obtain ⟨x3_2, G_3⟩ := w3
  obtain ⟨i3_0, i3_1, hF, hT, hS, hl⟩ := hI
  have i3_0 : 0 ≤ x3_2.toInt := i3_0
  have i3_1 : x3_2.toInt ≤ 700 := i3_1
  have hF : Fr τ [30, 31] G G_3 := hF
  have hT : TY D cy base τ G_3 H := hT
  have hS : va_S (RA base) s.heap H locs := hS
  have hl : lv_has ls 5 [(2, .int x3_2), (0, .ref a), (1, .int v)] := hl
  refine lv_iload_n hx hb dX3_settle_10 rfl (lv_at hl 0 rfl) ?_
  refine lv_aload_n hx hb dX3_settle_11 rfl (lv_at hl 1 rfl) ?_
  refine t_geti cf_4 hx hb hts hown hK hT h_a (k := 7) rfl fl_X3_49 (fun _ h9 => h9) dX3_settle_12 (fun z_4 ez_4 rz_4 => ?_)
  have ez_4 : z_4 = G_3.1 a 7 := ez_4
  have rz_4 : -1 ≤ z_4.toInt ∧ z_4.toInt ≤ 600 := rz_4
  have ez_4 : z_4 = G.1 a 7 := ez_4.trans (hF.i h_a (by decide) rfl _)
  refine lv_icmp_gt (tgt := 139) hx hb dX3_settle_15 (by decide) (fun c_5 => ?_) (fun c_5 => ?_)
  · skip
    have tc_5 : z_4.toInt < x3_2.toInt := (fa_lt _ _).mp c_5
    exact ret_v hx hb hr hlocks ⟨⟨hS.1, hS.2.1⟩, G_3, hF, ⟨rfl, trivial⟩, hT⟩ hS.2.2 (Nat.le_of_ble_eq_true rfl) (Nat.le_of_ble_eq_true rfl) dX3_settle_139
  · skip
    have tc_5 : ¬ z_4.toInt < x3_2.toInt := fun h => c_5 ((fa_lt _ _).mpr h)
    refine lv_aload_n hx hb dX3_settle_18 rfl (lv_at hl 1 rfl) ?_
    refine lv_aload_n hx hb dX3_settle_19 rfl (lv_at hl 1 rfl) ?_
    refine t_getr cf_4 hx hb hts hown hK hT h_a (k := 1) (P := fun q => τ q = 30) rfl (fun _ h9 => h9) fl_X3_15 (fun _ h9 => h9) dX3_settle_20 (fun q_6 eq_6 hq_6 => ?_)
    have eq_6 := (hF.r h_a (by decide) rfl _).symm.trans eq_6
    refine lv_iload_n hx hb dX3_settle_23 rfl (lv_at hl 0 rfl) ?_
    obtain ⟨z_7, ez_7⟩ : ∃ y : Int32, y = G_3.1 a 8 := ⟨_, rfl⟩
    have rz_7 : 1 ≤ z_7.toInt ∧ z_7.toInt ≤ 50 := by rw [ez_7]; exact hT.rgi h_a (by decide) 8
    have ez_7 : z_7 = G.1 a 8 := ez_7.trans (hF.i h_a (by decide) rfl _)
    refine pu_calli (runV (As := [.ref q_6, .int x3_2]) (rest := []) ⟨hx, hb, hml, hown, hts⟩ (t_X3_fewestOf l D cy base τ G_3 a h_a q_6 hq_6 x3_2 ⟨by omega, by omega⟩ z_7 (ez_7.trans (hF.i h_a (by decide) rfl _).symm) ⟨by omega, by omega⟩) sV_X3_92 hK (t_recv cf_4 hK hT h_a) ⟨Nat.le_trans hZ hS.1, hT⟩ ⟨Nat.le_of_ble_eq_true rfl, Nat.le_of_ble_eq_true rfl⟩ rfl hl.1 rfl (Nat.le_of_ble_eq_true rfl) dX3_settle_24 ⟨Nat.le_of_ble_eq_true rfl, Nat.le_of_ble_eq_true rfl⟩) (fun r_8 hr_8 => ?_)
    obtain ⟨hr_8_lo, hr_8_hi, hr_8_p0, hr_8_p1⟩ := hr_8
    have hr_8_lo : 0 ≤ r_8.toInt := hr_8_lo
    have hr_8_hi : r_8.toInt ≤ 9 := hr_8_hi
    have hr_8_p0 : 0 ≤ x3_2.toInt + r_8.toInt * z_7.toInt := hr_8_p0
    have hr_8_p1 : x3_2.toInt + r_8.toInt * z_7.toInt ≤ 600 := hr_8_p1
    refine lv_istore_n (lv' := [(3, .int r_8), (2, .int x3_2), (0, .ref a), (1, .int v)]) hx hb dX3_settle_27 rfl hl (by decide) rfl (fun ls hl => ?_)
    refine lv_aload_n hx hb dX3_settle_28 rfl (lv_at hl 2 rfl) ?_
    refine t_getr cf_4 hx hb hts hown hK hT h_a (k := 2) (P := fun q => τ q = 31) rfl (fun _ h9 => h9) fl_X3_18 (fun _ h9 => h9) dX3_settle_29 (fun q_9 eq_9 hq_9 => ?_)
    have eq_9 := (hF.r h_a (by decide) rfl _).symm.trans eq_9
    refine lv_iload_n hx hb dX3_settle_32 rfl (lv_at hl 1 rfl) ?_
    refine lv_iload_n hx hb dX3_settle_33 rfl (lv_at hl 0 rfl) ?_
    refine lv_aload_n hx hb dX3_settle_34 rfl (lv_at hl 2 rfl) ?_
    refine t_geti cf_4 hx hb hts hown hK hT h_a (k := 8) rfl fl_X3_29 (fun _ h9 => h9) dX3_settle_35 (fun z_10 ez_10 rz_10 => ?_)
    have w_11 : z_7 = z_10 := ez_7.trans (ez_10.trans (hF.i h_a (by decide) rfl _)).symm
    subst w_11
    refine lv_imul hx hb dX3_settle_38 ?_
    refine lv_topi (fun z_12 ez_12 => ?_)
    have tz_12 : 0 ≤ z_12.toInt ∧ z_12.toInt ≤ 450 ∧ z_12.toInt = r_8.toInt * z_7.toInt := mulb_t (a := 9) (b := 50) ez_12 (by omega) (by omega) (by omega) (by omega) (by decide)
    refine lv_iadd hx hb dX3_settle_39 ?_
    refine lv_topi (fun z_13 ez_13 => ?_)
    have tz_13 : z_13.toInt = x3_2.toInt + z_12.toInt := add_t ez_13 (show -2147483648 ≤ x3_2.toInt + z_12.toInt by omega) (show x3_2.toInt + z_12.toInt < 2147483648 by omega)
    refine t_iald (n := 601) (i := z_13) rfl (by decide) hx hb hK hT hq_9 (hT.len hq_9 (by decide)) ⟨by omega, by omega⟩ dX3_settle_40 (fun z_14 ez_14 rz_14 => ?_)
    refine lv_istore (lv' := [(4, .int z_14), (3, .int r_8), (2, .int x3_2), (0, .ref a), (1, .int v)]) hx hb dX3_settle_41 hl (by decide) rfl (fun ls hl => ?_)
    refine lv_aload_n hx hb dX3_settle_43 rfl (lv_at hl 3 rfl) ?_
    refine t_getr cf_4 hx hb hts hown hK hT h_a (k := 2) (P := fun q => τ q = 31) rfl (fun _ h9 => h9) fl_X3_18 (fun _ h9 => h9) dX3_settle_44 (fun q_15 eq_15 hq_15 => ?_)
    have w_16 : q_9 = q_15 := Option.some.inj (eq_9.symm.trans ((hF.r h_a (by decide) rfl _).symm.trans eq_15))
    subst w_16
    refine lv_iload_n hx hb dX3_settle_47 rfl (lv_at hl 2 rfl) ?_
    refine lv_iload hx hb dX3_settle_48 (lv_at hl 0 rfl) ?_
    refine lv_iconst (v := (-1)) hx hb dX3_settle_50 (by decide) ?_
    refine lv_icmp_ne (tgt := 62) hx hb dX3_settle_51 (by decide) (fun c_17 => ?_) (fun c_17 => ?_)
    · skip
      have tc_17 : ¬ z_14.toInt = -1 := fun h => c_17 ((fa_eq _ _).mpr h)
      refine lv_iload hx hb dX3_settle_62 (lv_at hl 0 rfl) ?_
      refine t_iast (n := 601) (i := x3_2) (x := z_14) rfl (by decide) hx hb hK hT hS hq_9 (hT.len hq_9 (by decide)) ⟨by omega, by omega⟩ trivial dX3_settle_64 (fun H locs G_18 eG_18 hT hS => ?_)
      have hF := hF.wI eG_18 hq_9 rfl
      refine lv_aload_n hx hb dX3_settle_65 rfl (lv_at hl 3 rfl) ?_
      refine t_getr cf_4 hx hb hts hown hK hT h_a (k := 1) (P := fun q => τ q = 30) rfl (fun _ h9 => h9) fl_X3_15 (fun _ h9 => h9) dX3_settle_66 (fun q_19 eq_19 hq_19 => ?_)
      have w_20 : q_6 = q_19 := Option.some.inj (eq_6.symm.trans ((hF.r h_a (by decide) rfl _).symm.trans eq_19))
      subst w_20
      refine lv_iload_n hx hb dX3_settle_69 rfl (lv_at hl 2 rfl) ?_
      refine lv_iload_n hx hb dX3_settle_70 rfl (lv_at hl 1 rfl) ?_
      refine lv_i2l hx hb dX3_settle_71 rfl ?_
      refine lv_topl (fun z_21 ez_21 => ?_)
      have tz_21 : z_21.toInt = r_8.toInt := by rw [ez_21]; exact wide_t r_8
      refine lv_aload_n hx hb dX3_settle_72 rfl (lv_at hl 3 rfl) ?_
      refine t_getl cf_4 hx hb hts hown hK hT h_a (k := 9) rfl fl_X3_68 (fun _ h9 => h9) dX3_settle_73 (fun z_22 ez_22 => ?_)
      refine lv_lmul hx hb dX3_settle_76 ?_
      refine lv_topl (fun z_23 ez_23 => ?_)
      refine lv_aload_n hx hb dX3_settle_77 rfl (lv_at hl 3 rfl) ?_
      refine t_getr cf_4 hx hb hts hown hK hT h_a (k := 1) (P := fun q => τ q = 30) rfl (fun _ h9 => h9) fl_X3_15 (fun _ h9 => h9) dX3_settle_78 (fun q_24 eq_24 hq_24 => ?_)
      have w_25 : q_6 = q_24 := Option.some.inj (eq_6.symm.trans ((hF.r h_a (by decide) rfl _).symm.trans eq_24))
      subst w_25
      refine lv_iload_n hx hb dX3_settle_81 rfl (lv_at hl 2 rfl) ?_
      refine lv_iload_n hx hb dX3_settle_82 rfl (lv_at hl 1 rfl) ?_
      refine lv_aload_n hx hb dX3_settle_83 rfl (lv_at hl 3 rfl) ?_
      refine t_geti cf_4 hx hb hts hown hK hT h_a (k := 8) rfl fl_X3_29 (fun _ h9 => h9) dX3_settle_84 (fun z_26 ez_26 rz_26 => ?_)
      have w_27 : z_7 = z_26 := ez_7.trans (ez_26.trans (hF.i h_a (by decide) rfl _)).symm
      subst w_27
      refine lv_imul hx hb dX3_settle_87 ?_
      refine lv_topi (fun z_28 ez_28 => ?_)
      have w_29 : z_12 = z_28 := ez_12.trans ez_28.symm
      subst w_29
      refine lv_iadd hx hb dX3_settle_88 ?_
      refine lv_topi (fun z_30 ez_30 => ?_)
      have w_31 : z_13 = z_30 := ez_13.trans ez_30.symm
      subst w_31
      refine t_lald (n := 601) (i := z_13) rfl (by decide) hx hb hK hT hq_6 (hT.len hq_6 (by decide)) ⟨by omega, by omega⟩ dX3_settle_89 (fun z_32 ez_32 => ?_)
      refine lv_ladd hx hb dX3_settle_90 ?_
      refine lv_topl (fun z_33 ez_33 => ?_)
      refine t_last (n := 601) (i := x3_2) (x := z_33) rfl (by decide) hx hb hK hT hS hq_6 (hT.len hq_6 (by decide)) ⟨by omega, by omega⟩ dX3_settle_91 (fun H locs G_34 eG_34 hT hS => ?_)
      have hF := hF.wL eG_34 hq_6 rfl
      refine lv_aload_n hx hb dX3_settle_92 rfl (lv_at hl 3 rfl) ?_
      refine lv_aload_n hx hb dX3_settle_93 rfl (lv_at hl 3 rfl) ?_
      refine t_getr cf_4 hx hb hts hown hK hT h_a (k := 0) (P := fun q => τ q = 30) rfl (fun _ h9 => h9) fl_X3_9 (fun _ h9 => h9) dX3_settle_94 (fun q_35 eq_35 hq_35 => ?_)
      have eq_35 := (hF.r h_a (by decide) rfl _).symm.trans eq_35
      refine lv_iload_n hx hb dX3_settle_97 rfl (lv_at hl 2 rfl) ?_
      refine pu_calli (runV (As := [.ref q_35, .int x3_2]) (rest := []) ⟨hx, hb, hml, hown, hts⟩ (t_X3_fewestOf l D cy base τ G_34 a h_a q_35 hq_35 x3_2 ⟨by omega, by omega⟩ z_7 (ez_7.trans (hF.i h_a (by decide) rfl _).symm) ⟨by omega, by omega⟩) sV_X3_92 hK (t_recv cf_4 hK hT h_a) ⟨Nat.le_trans hZ hS.1, hT⟩ ⟨Nat.le_of_ble_eq_true rfl, Nat.le_of_ble_eq_true rfl⟩ rfl hl.1 rfl (Nat.le_of_ble_eq_true rfl) dX3_settle_98 ⟨Nat.le_of_ble_eq_true rfl, Nat.le_of_ble_eq_true rfl⟩) (fun r_36 hr_36 => ?_)
      obtain ⟨hr_36_lo, hr_36_hi, hr_36_p0, hr_36_p1⟩ := hr_36
      have hr_36_lo : 0 ≤ r_36.toInt := hr_36_lo
      have hr_36_hi : r_36.toInt ≤ 9 := hr_36_hi
      have hr_36_p0 : 0 ≤ x3_2.toInt + r_36.toInt * z_7.toInt := hr_36_p0
      have hr_36_p1 : x3_2.toInt + r_36.toInt * z_7.toInt ≤ 600 := hr_36_p1
      refine lv_istore_n (lv' := [(3, .int r_36), (4, .int z_14), (2, .int x3_2), (0, .ref a), (1, .int v)]) hx hb dX3_settle_101 rfl hl (by decide) rfl (fun ls hl => ?_)
      refine lv_aload_n hx hb dX3_settle_102 rfl (lv_at hl 3 rfl) ?_
      refine t_getr cf_4 hx hb hts hown hK hT h_a (k := 0) (P := fun q => τ q = 30) rfl (fun _ h9 => h9) fl_X3_9 (fun _ h9 => h9) dX3_settle_103 (fun q_37 eq_37 hq_37 => ?_)
      have w_38 : q_35 = q_37 := Option.some.inj (eq_35.symm.trans ((hF.r h_a (by decide) rfl _).symm.trans eq_37))
      subst w_38
      refine lv_iload_n hx hb dX3_settle_106 rfl (lv_at hl 2 rfl) ?_
      refine lv_iload_n hx hb dX3_settle_107 rfl (lv_at hl 0 rfl) ?_
      refine lv_i2l hx hb dX3_settle_108 rfl ?_
      refine lv_topl (fun z_39 ez_39 => ?_)
      have tz_39 : z_39.toInt = r_36.toInt := by rw [ez_39]; exact wide_t r_36
      refine lv_aload_n hx hb dX3_settle_109 rfl (lv_at hl 3 rfl) ?_
      refine t_getl cf_4 hx hb hts hown hK hT h_a (k := 9) rfl fl_X3_68 (fun _ h9 => h9) dX3_settle_110 (fun z_40 ez_40 => ?_)
      refine lv_lmul hx hb dX3_settle_113 ?_
      refine lv_topl (fun z_41 ez_41 => ?_)
      refine lv_aload_n hx hb dX3_settle_114 rfl (lv_at hl 3 rfl) ?_
      refine t_getr cf_4 hx hb hts hown hK hT h_a (k := 0) (P := fun q => τ q = 30) rfl (fun _ h9 => h9) fl_X3_9 (fun _ h9 => h9) dX3_settle_115 (fun q_42 eq_42 hq_42 => ?_)
      have w_43 : q_35 = q_42 := Option.some.inj (eq_35.symm.trans ((hF.r h_a (by decide) rfl _).symm.trans eq_42))
      subst w_43
      refine lv_iload_n hx hb dX3_settle_118 rfl (lv_at hl 2 rfl) ?_
      refine lv_iload_n hx hb dX3_settle_119 rfl (lv_at hl 0 rfl) ?_
      refine lv_aload_n hx hb dX3_settle_120 rfl (lv_at hl 3 rfl) ?_
      refine t_geti cf_4 hx hb hts hown hK hT h_a (k := 8) rfl fl_X3_29 (fun _ h9 => h9) dX3_settle_121 (fun z_44 ez_44 rz_44 => ?_)
      have w_45 : z_7 = z_44 := ez_7.trans (ez_44.trans (hF.i h_a (by decide) rfl _)).symm
      subst w_45
      refine lv_imul hx hb dX3_settle_124 ?_
      refine lv_topi (fun z_46 ez_46 => ?_)
      have tz_46 : 0 ≤ z_46.toInt ∧ z_46.toInt ≤ 450 ∧ z_46.toInt = r_36.toInt * z_7.toInt := mulb_t (a := 9) (b := 50) ez_46 (by omega) (by omega) (by omega) (by omega) (by decide)
      refine lv_iadd hx hb dX3_settle_125 ?_
      refine lv_topi (fun z_47 ez_47 => ?_)
      have tz_47 : z_47.toInt = x3_2.toInt + z_46.toInt := add_t ez_47 (show -2147483648 ≤ x3_2.toInt + z_46.toInt by omega) (show x3_2.toInt + z_46.toInt < 2147483648 by omega)
      refine t_lald (n := 601) (i := z_47) rfl (by decide) hx hb hK hT hq_35 (hT.len hq_35 (by decide)) ⟨by omega, by omega⟩ dX3_settle_126 (fun z_48 ez_48 => ?_)
      refine lv_ladd hx hb dX3_settle_127 ?_
      refine lv_topl (fun z_49 ez_49 => ?_)
      refine t_last (n := 601) (i := x3_2) (x := z_49) rfl (by decide) hx hb hK hT hS hq_35 (hT.len hq_35 (by decide)) ⟨by omega, by omega⟩ dX3_settle_128 (fun H locs G_50 eG_50 hT hS => ?_)
      have hF := hF.wL eG_50 hq_35 rfl
      refine lv_iload_n hx hb dX3_settle_129 rfl (lv_at hl 2 rfl) ?_
      refine lv_aload_n hx hb dX3_settle_130 rfl (lv_at hl 3 rfl) ?_
      refine t_geti cf_4 hx hb hts hown hK hT h_a (k := 8) rfl fl_X3_29 (fun _ h9 => h9) dX3_settle_131 (fun z_51 ez_51 rz_51 => ?_)
      have w_52 : z_7 = z_51 := ez_7.trans (ez_51.trans (hF.i h_a (by decide) rfl _)).symm
      subst w_52
      refine lv_iadd hx hb dX3_settle_134 ?_
      refine lv_topi (fun z_53 ez_53 => ?_)
      have tz_53 : z_53.toInt = x3_2.toInt + z_7.toInt := add_t ez_53 (show -2147483648 ≤ x3_2.toInt + z_7.toInt by omega) (show x3_2.toInt + z_7.toInt < 2147483648 by omega)
      refine lv_istore_n (lv' := [(2, .int z_53), (3, .int r_36), (4, .int z_14), (0, .ref a), (1, .int v)]) hx hb dX3_settle_135 rfl hl (by decide) rfl (fun ls hl => ?_)
      refine lv_goto (tgt := 10) hx hb dX3_settle_136 (by decide) ?_
      exact ih3 (z_53, G_50) _ _ _ (by show (700 - z_53.toInt).toNat < (700 - x3_2.toInt).toNat; omega) ⟨(by show 0 ≤ z_53.toInt; omega), (by show z_53.toInt ≤ 700; omega), hF, hT, hS, lv_sub hl [0, 3, 4] rfl⟩
    · skip
      have tc_17 : z_14.toInt = -1 := (fa_eq _ _).mp c_17
      refine lv_iload_n hx hb dX3_settle_54 rfl (lv_at hl 1 rfl) ?_
      refine lv_if_le (tgt := 62) hx hb dX3_settle_55 (by decide) (fun c_54 => ?_) (fun c_54 => ?_)
      · skip
        have tc_54 : r_8.toInt ≤ 0 := (fa_le _ _).mp c_54
        refine lv_iload hx hb dX3_settle_62 (lv_at hl 0 rfl) ?_
        refine t_iast (n := 601) (i := x3_2) (x := z_14) rfl (by decide) hx hb hK hT hS hq_9 (hT.len hq_9 (by decide)) ⟨by omega, by omega⟩ trivial dX3_settle_64 (fun H locs G_55 eG_55 hT hS => ?_)
        have hF := hF.wI eG_55 hq_9 rfl
        refine lv_aload_n hx hb dX3_settle_65 rfl (lv_at hl 3 rfl) ?_
        refine t_getr cf_4 hx hb hts hown hK hT h_a (k := 1) (P := fun q => τ q = 30) rfl (fun _ h9 => h9) fl_X3_15 (fun _ h9 => h9) dX3_settle_66 (fun q_56 eq_56 hq_56 => ?_)
        have w_57 : q_6 = q_56 := Option.some.inj (eq_6.symm.trans ((hF.r h_a (by decide) rfl _).symm.trans eq_56))
        subst w_57
        refine lv_iload_n hx hb dX3_settle_69 rfl (lv_at hl 2 rfl) ?_
        refine lv_iload_n hx hb dX3_settle_70 rfl (lv_at hl 1 rfl) ?_
        refine lv_i2l hx hb dX3_settle_71 rfl ?_
        refine lv_topl (fun z_58 ez_58 => ?_)
        have tz_58 : z_58.toInt = r_8.toInt := by rw [ez_58]; exact wide_t r_8
        refine lv_aload_n hx hb dX3_settle_72 rfl (lv_at hl 3 rfl) ?_
        refine t_getl cf_4 hx hb hts hown hK hT h_a (k := 9) rfl fl_X3_68 (fun _ h9 => h9) dX3_settle_73 (fun z_59 ez_59 => ?_)
        refine lv_lmul hx hb dX3_settle_76 ?_
        refine lv_topl (fun z_60 ez_60 => ?_)
        refine lv_aload_n hx hb dX3_settle_77 rfl (lv_at hl 3 rfl) ?_
        refine t_getr cf_4 hx hb hts hown hK hT h_a (k := 1) (P := fun q => τ q = 30) rfl (fun _ h9 => h9) fl_X3_15 (fun _ h9 => h9) dX3_settle_78 (fun q_61 eq_61 hq_61 => ?_)
        have w_62 : q_6 = q_61 := Option.some.inj (eq_6.symm.trans ((hF.r h_a (by decide) rfl _).symm.trans eq_61))
        subst w_62
        refine lv_iload_n hx hb dX3_settle_81 rfl (lv_at hl 2 rfl) ?_
        refine lv_iload_n hx hb dX3_settle_82 rfl (lv_at hl 1 rfl) ?_
        refine lv_aload_n hx hb dX3_settle_83 rfl (lv_at hl 3 rfl) ?_
        refine t_geti cf_4 hx hb hts hown hK hT h_a (k := 8) rfl fl_X3_29 (fun _ h9 => h9) dX3_settle_84 (fun z_63 ez_63 rz_63 => ?_)
        have w_64 : z_7 = z_63 := ez_7.trans (ez_63.trans (hF.i h_a (by decide) rfl _)).symm
        subst w_64
        refine lv_imul hx hb dX3_settle_87 ?_
        refine lv_topi (fun z_65 ez_65 => ?_)
        have w_66 : z_12 = z_65 := ez_12.trans ez_65.symm
        subst w_66
        refine lv_iadd hx hb dX3_settle_88 ?_
        refine lv_topi (fun z_67 ez_67 => ?_)
        have w_68 : z_13 = z_67 := ez_13.trans ez_67.symm
        subst w_68
        refine t_lald (n := 601) (i := z_13) rfl (by decide) hx hb hK hT hq_6 (hT.len hq_6 (by decide)) ⟨by omega, by omega⟩ dX3_settle_89 (fun z_69 ez_69 => ?_)
        refine lv_ladd hx hb dX3_settle_90 ?_
        refine lv_topl (fun z_70 ez_70 => ?_)
        refine t_last (n := 601) (i := x3_2) (x := z_70) rfl (by decide) hx hb hK hT hS hq_6 (hT.len hq_6 (by decide)) ⟨by omega, by omega⟩ dX3_settle_91 (fun H locs G_71 eG_71 hT hS => ?_)
        have hF := hF.wL eG_71 hq_6 rfl
        refine lv_aload_n hx hb dX3_settle_92 rfl (lv_at hl 3 rfl) ?_
        refine lv_aload_n hx hb dX3_settle_93 rfl (lv_at hl 3 rfl) ?_
        refine t_getr cf_4 hx hb hts hown hK hT h_a (k := 0) (P := fun q => τ q = 30) rfl (fun _ h9 => h9) fl_X3_9 (fun _ h9 => h9) dX3_settle_94 (fun q_72 eq_72 hq_72 => ?_)
        have eq_72 := (hF.r h_a (by decide) rfl _).symm.trans eq_72
        refine lv_iload_n hx hb dX3_settle_97 rfl (lv_at hl 2 rfl) ?_
        refine pu_calli (runV (As := [.ref q_72, .int x3_2]) (rest := []) ⟨hx, hb, hml, hown, hts⟩ (t_X3_fewestOf l D cy base τ G_71 a h_a q_72 hq_72 x3_2 ⟨by omega, by omega⟩ z_7 (ez_7.trans (hF.i h_a (by decide) rfl _).symm) ⟨by omega, by omega⟩) sV_X3_92 hK (t_recv cf_4 hK hT h_a) ⟨Nat.le_trans hZ hS.1, hT⟩ ⟨Nat.le_of_ble_eq_true rfl, Nat.le_of_ble_eq_true rfl⟩ rfl hl.1 rfl (Nat.le_of_ble_eq_true rfl) dX3_settle_98 ⟨Nat.le_of_ble_eq_true rfl, Nat.le_of_ble_eq_true rfl⟩) (fun r_73 hr_73 => ?_)
        obtain ⟨hr_73_lo, hr_73_hi, hr_73_p0, hr_73_p1⟩ := hr_73
        have hr_73_lo : 0 ≤ r_73.toInt := hr_73_lo
        have hr_73_hi : r_73.toInt ≤ 9 := hr_73_hi
        have hr_73_p0 : 0 ≤ x3_2.toInt + r_73.toInt * z_7.toInt := hr_73_p0
        have hr_73_p1 : x3_2.toInt + r_73.toInt * z_7.toInt ≤ 600 := hr_73_p1
        refine lv_istore_n (lv' := [(3, .int r_73), (4, .int z_14), (2, .int x3_2), (0, .ref a), (1, .int v)]) hx hb dX3_settle_101 rfl hl (by decide) rfl (fun ls hl => ?_)
        refine lv_aload_n hx hb dX3_settle_102 rfl (lv_at hl 3 rfl) ?_
        refine t_getr cf_4 hx hb hts hown hK hT h_a (k := 0) (P := fun q => τ q = 30) rfl (fun _ h9 => h9) fl_X3_9 (fun _ h9 => h9) dX3_settle_103 (fun q_74 eq_74 hq_74 => ?_)
        have w_75 : q_72 = q_74 := Option.some.inj (eq_72.symm.trans ((hF.r h_a (by decide) rfl _).symm.trans eq_74))
        subst w_75
        refine lv_iload_n hx hb dX3_settle_106 rfl (lv_at hl 2 rfl) ?_
        refine lv_iload_n hx hb dX3_settle_107 rfl (lv_at hl 0 rfl) ?_
        refine lv_i2l hx hb dX3_settle_108 rfl ?_
        refine lv_topl (fun z_76 ez_76 => ?_)
        have tz_76 : z_76.toInt = r_73.toInt := by rw [ez_76]; exact wide_t r_73
        refine lv_aload_n hx hb dX3_settle_109 rfl (lv_at hl 3 rfl) ?_
        refine t_getl cf_4 hx hb hts hown hK hT h_a (k := 9) rfl fl_X3_68 (fun _ h9 => h9) dX3_settle_110 (fun z_77 ez_77 => ?_)
        refine lv_lmul hx hb dX3_settle_113 ?_
        refine lv_topl (fun z_78 ez_78 => ?_)
        refine lv_aload_n hx hb dX3_settle_114 rfl (lv_at hl 3 rfl) ?_
        refine t_getr cf_4 hx hb hts hown hK hT h_a (k := 0) (P := fun q => τ q = 30) rfl (fun _ h9 => h9) fl_X3_9 (fun _ h9 => h9) dX3_settle_115 (fun q_79 eq_79 hq_79 => ?_)
        have w_80 : q_72 = q_79 := Option.some.inj (eq_72.symm.trans ((hF.r h_a (by decide) rfl _).symm.trans eq_79))
        subst w_80
        refine lv_iload_n hx hb dX3_settle_118 rfl (lv_at hl 2 rfl) ?_
        refine lv_iload_n hx hb dX3_settle_119 rfl (lv_at hl 0 rfl) ?_
        refine lv_aload_n hx hb dX3_settle_120 rfl (lv_at hl 3 rfl) ?_
        refine t_geti cf_4 hx hb hts hown hK hT h_a (k := 8) rfl fl_X3_29 (fun _ h9 => h9) dX3_settle_121 (fun z_81 ez_81 rz_81 => ?_)
        have w_82 : z_7 = z_81 := ez_7.trans (ez_81.trans (hF.i h_a (by decide) rfl _)).symm
        subst w_82
        refine lv_imul hx hb dX3_settle_124 ?_
        refine lv_topi (fun z_83 ez_83 => ?_)
        have tz_83 : 0 ≤ z_83.toInt ∧ z_83.toInt ≤ 450 ∧ z_83.toInt = r_73.toInt * z_7.toInt := mulb_t (a := 9) (b := 50) ez_83 (by omega) (by omega) (by omega) (by omega) (by decide)
        refine lv_iadd hx hb dX3_settle_125 ?_
        refine lv_topi (fun z_84 ez_84 => ?_)
        have tz_84 : z_84.toInt = x3_2.toInt + z_83.toInt := add_t ez_84 (show -2147483648 ≤ x3_2.toInt + z_83.toInt by omega) (show x3_2.toInt + z_83.toInt < 2147483648 by omega)
        refine t_lald (n := 601) (i := z_84) rfl (by decide) hx hb hK hT hq_72 (hT.len hq_72 (by decide)) ⟨by omega, by omega⟩ dX3_settle_126 (fun z_85 ez_85 => ?_)
        refine lv_ladd hx hb dX3_settle_127 ?_
        refine lv_topl (fun z_86 ez_86 => ?_)
        refine t_last (n := 601) (i := x3_2) (x := z_86) rfl (by decide) hx hb hK hT hS hq_72 (hT.len hq_72 (by decide)) ⟨by omega, by omega⟩ dX3_settle_128 (fun H locs G_87 eG_87 hT hS => ?_)
        have hF := hF.wL eG_87 hq_72 rfl
        refine lv_iload_n hx hb dX3_settle_129 rfl (lv_at hl 2 rfl) ?_
        refine lv_aload_n hx hb dX3_settle_130 rfl (lv_at hl 3 rfl) ?_
        refine t_geti cf_4 hx hb hts hown hK hT h_a (k := 8) rfl fl_X3_29 (fun _ h9 => h9) dX3_settle_131 (fun z_88 ez_88 rz_88 => ?_)
        have w_89 : z_7 = z_88 := ez_7.trans (ez_88.trans (hF.i h_a (by decide) rfl _)).symm
        subst w_89
        refine lv_iadd hx hb dX3_settle_134 ?_
        refine lv_topi (fun z_90 ez_90 => ?_)
        have tz_90 : z_90.toInt = x3_2.toInt + z_7.toInt := add_t ez_90 (show -2147483648 ≤ x3_2.toInt + z_7.toInt by omega) (show x3_2.toInt + z_7.toInt < 2147483648 by omega)
        refine lv_istore_n (lv' := [(2, .int z_90), (3, .int r_73), (4, .int z_14), (0, .ref a), (1, .int v)]) hx hb dX3_settle_135 rfl hl (by decide) rfl (fun ls hl => ?_)
        refine lv_goto (tgt := 10) hx hb dX3_settle_136 (by decide) ?_
        exact ih3 (z_90, G_87) _ _ _ (by show (700 - z_90.toInt).toNat < (700 - x3_2.toInt).toNat; omega) ⟨(by show 0 ≤ z_90.toInt; omega), (by show z_90.toInt ≤ 700; omega), hF, hT, hS, lv_sub hl [0, 3, 4] rfl⟩
      · skip
        have tc_54 : ¬ r_8.toInt ≤ 0 := fun h => c_54 ((fa_le _ _).mpr h)
        refine lv_iload_n hx hb dX3_settle_58 rfl (lv_at hl 4 rfl) ?_
        refine lv_goto (tgt := 64) hx hb dX3_settle_59 (by decide) ?_
        refine t_iast (n := 601) (i := x3_2) (x := v) rfl (by decide) hx hb hK hT hS hq_9 (hT.len hq_9 (by decide)) ⟨by omega, by omega⟩ trivial dX3_settle_64 (fun H locs G_91 eG_91 hT hS => ?_)
        have hF := hF.wI eG_91 hq_9 rfl
        refine lv_aload_n hx hb dX3_settle_65 rfl (lv_at hl 3 rfl) ?_
        refine t_getr cf_4 hx hb hts hown hK hT h_a (k := 1) (P := fun q => τ q = 30) rfl (fun _ h9 => h9) fl_X3_15 (fun _ h9 => h9) dX3_settle_66 (fun q_92 eq_92 hq_92 => ?_)
        have w_93 : q_6 = q_92 := Option.some.inj (eq_6.symm.trans ((hF.r h_a (by decide) rfl _).symm.trans eq_92))
        subst w_93
        refine lv_iload_n hx hb dX3_settle_69 rfl (lv_at hl 2 rfl) ?_
        refine lv_iload_n hx hb dX3_settle_70 rfl (lv_at hl 1 rfl) ?_
        refine lv_i2l hx hb dX3_settle_71 rfl ?_
        refine lv_topl (fun z_94 ez_94 => ?_)
        have tz_94 : z_94.toInt = r_8.toInt := by rw [ez_94]; exact wide_t r_8
        refine lv_aload_n hx hb dX3_settle_72 rfl (lv_at hl 3 rfl) ?_
        refine t_getl cf_4 hx hb hts hown hK hT h_a (k := 9) rfl fl_X3_68 (fun _ h9 => h9) dX3_settle_73 (fun z_95 ez_95 => ?_)
        refine lv_lmul hx hb dX3_settle_76 ?_
        refine lv_topl (fun z_96 ez_96 => ?_)
        refine lv_aload_n hx hb dX3_settle_77 rfl (lv_at hl 3 rfl) ?_
        refine t_getr cf_4 hx hb hts hown hK hT h_a (k := 1) (P := fun q => τ q = 30) rfl (fun _ h9 => h9) fl_X3_15 (fun _ h9 => h9) dX3_settle_78 (fun q_97 eq_97 hq_97 => ?_)
        have w_98 : q_6 = q_97 := Option.some.inj (eq_6.symm.trans ((hF.r h_a (by decide) rfl _).symm.trans eq_97))
        subst w_98
        refine lv_iload_n hx hb dX3_settle_81 rfl (lv_at hl 2 rfl) ?_
        refine lv_iload_n hx hb dX3_settle_82 rfl (lv_at hl 1 rfl) ?_
        refine lv_aload_n hx hb dX3_settle_83 rfl (lv_at hl 3 rfl) ?_
        refine t_geti cf_4 hx hb hts hown hK hT h_a (k := 8) rfl fl_X3_29 (fun _ h9 => h9) dX3_settle_84 (fun z_99 ez_99 rz_99 => ?_)
        have w_100 : z_7 = z_99 := ez_7.trans (ez_99.trans (hF.i h_a (by decide) rfl _)).symm
        subst w_100
        refine lv_imul hx hb dX3_settle_87 ?_
        refine lv_topi (fun z_101 ez_101 => ?_)
        have w_102 : z_12 = z_101 := ez_12.trans ez_101.symm
        subst w_102
        refine lv_iadd hx hb dX3_settle_88 ?_
        refine lv_topi (fun z_103 ez_103 => ?_)
        have w_104 : z_13 = z_103 := ez_13.trans ez_103.symm
        subst w_104
        refine t_lald (n := 601) (i := z_13) rfl (by decide) hx hb hK hT hq_6 (hT.len hq_6 (by decide)) ⟨by omega, by omega⟩ dX3_settle_89 (fun z_105 ez_105 => ?_)
        refine lv_ladd hx hb dX3_settle_90 ?_
        refine lv_topl (fun z_106 ez_106 => ?_)
        refine t_last (n := 601) (i := x3_2) (x := z_106) rfl (by decide) hx hb hK hT hS hq_6 (hT.len hq_6 (by decide)) ⟨by omega, by omega⟩ dX3_settle_91 (fun H locs G_107 eG_107 hT hS => ?_)
        have hF := hF.wL eG_107 hq_6 rfl
        refine lv_aload_n hx hb dX3_settle_92 rfl (lv_at hl 3 rfl) ?_
        refine lv_aload_n hx hb dX3_settle_93 rfl (lv_at hl 3 rfl) ?_
        refine t_getr cf_4 hx hb hts hown hK hT h_a (k := 0) (P := fun q => τ q = 30) rfl (fun _ h9 => h9) fl_X3_9 (fun _ h9 => h9) dX3_settle_94 (fun q_108 eq_108 hq_108 => ?_)
        have eq_108 := (hF.r h_a (by decide) rfl _).symm.trans eq_108
        refine lv_iload_n hx hb dX3_settle_97 rfl (lv_at hl 2 rfl) ?_
        refine pu_calli (runV (As := [.ref q_108, .int x3_2]) (rest := []) ⟨hx, hb, hml, hown, hts⟩ (t_X3_fewestOf l D cy base τ G_107 a h_a q_108 hq_108 x3_2 ⟨by omega, by omega⟩ z_7 (ez_7.trans (hF.i h_a (by decide) rfl _).symm) ⟨by omega, by omega⟩) sV_X3_92 hK (t_recv cf_4 hK hT h_a) ⟨Nat.le_trans hZ hS.1, hT⟩ ⟨Nat.le_of_ble_eq_true rfl, Nat.le_of_ble_eq_true rfl⟩ rfl hl.1 rfl (Nat.le_of_ble_eq_true rfl) dX3_settle_98 ⟨Nat.le_of_ble_eq_true rfl, Nat.le_of_ble_eq_true rfl⟩) (fun r_109 hr_109 => ?_)
        obtain ⟨hr_109_lo, hr_109_hi, hr_109_p0, hr_109_p1⟩ := hr_109
        have hr_109_lo : 0 ≤ r_109.toInt := hr_109_lo
        have hr_109_hi : r_109.toInt ≤ 9 := hr_109_hi
        have hr_109_p0 : 0 ≤ x3_2.toInt + r_109.toInt * z_7.toInt := hr_109_p0
        have hr_109_p1 : x3_2.toInt + r_109.toInt * z_7.toInt ≤ 600 := hr_109_p1
        refine lv_istore_n (lv' := [(3, .int r_109), (4, .int z_14), (2, .int x3_2), (0, .ref a), (1, .int v)]) hx hb dX3_settle_101 rfl hl (by decide) rfl (fun ls hl => ?_)
        refine lv_aload_n hx hb dX3_settle_102 rfl (lv_at hl 3 rfl) ?_
        refine t_getr cf_4 hx hb hts hown hK hT h_a (k := 0) (P := fun q => τ q = 30) rfl (fun _ h9 => h9) fl_X3_9 (fun _ h9 => h9) dX3_settle_103 (fun q_110 eq_110 hq_110 => ?_)
        have w_111 : q_108 = q_110 := Option.some.inj (eq_108.symm.trans ((hF.r h_a (by decide) rfl _).symm.trans eq_110))
        subst w_111
        refine lv_iload_n hx hb dX3_settle_106 rfl (lv_at hl 2 rfl) ?_
        refine lv_iload_n hx hb dX3_settle_107 rfl (lv_at hl 0 rfl) ?_
        refine lv_i2l hx hb dX3_settle_108 rfl ?_
        refine lv_topl (fun z_112 ez_112 => ?_)
        have tz_112 : z_112.toInt = r_109.toInt := by rw [ez_112]; exact wide_t r_109
        refine lv_aload_n hx hb dX3_settle_109 rfl (lv_at hl 3 rfl) ?_
        refine t_getl cf_4 hx hb hts hown hK hT h_a (k := 9) rfl fl_X3_68 (fun _ h9 => h9) dX3_settle_110 (fun z_113 ez_113 => ?_)
        refine lv_lmul hx hb dX3_settle_113 ?_
        refine lv_topl (fun z_114 ez_114 => ?_)
        refine lv_aload_n hx hb dX3_settle_114 rfl (lv_at hl 3 rfl) ?_
        refine t_getr cf_4 hx hb hts hown hK hT h_a (k := 0) (P := fun q => τ q = 30) rfl (fun _ h9 => h9) fl_X3_9 (fun _ h9 => h9) dX3_settle_115 (fun q_115 eq_115 hq_115 => ?_)
        have w_116 : q_108 = q_115 := Option.some.inj (eq_108.symm.trans ((hF.r h_a (by decide) rfl _).symm.trans eq_115))
        subst w_116
        refine lv_iload_n hx hb dX3_settle_118 rfl (lv_at hl 2 rfl) ?_
        refine lv_iload_n hx hb dX3_settle_119 rfl (lv_at hl 0 rfl) ?_
        refine lv_aload_n hx hb dX3_settle_120 rfl (lv_at hl 3 rfl) ?_
        refine t_geti cf_4 hx hb hts hown hK hT h_a (k := 8) rfl fl_X3_29 (fun _ h9 => h9) dX3_settle_121 (fun z_117 ez_117 rz_117 => ?_)
        have w_118 : z_7 = z_117 := ez_7.trans (ez_117.trans (hF.i h_a (by decide) rfl _)).symm
        subst w_118
        refine lv_imul hx hb dX3_settle_124 ?_
        refine lv_topi (fun z_119 ez_119 => ?_)
        have tz_119 : 0 ≤ z_119.toInt ∧ z_119.toInt ≤ 450 ∧ z_119.toInt = r_109.toInt * z_7.toInt := mulb_t (a := 9) (b := 50) ez_119 (by omega) (by omega) (by omega) (by omega) (by decide)
        refine lv_iadd hx hb dX3_settle_125 ?_
        refine lv_topi (fun z_120 ez_120 => ?_)
        have tz_120 : z_120.toInt = x3_2.toInt + z_119.toInt := add_t ez_120 (show -2147483648 ≤ x3_2.toInt + z_119.toInt by omega) (show x3_2.toInt + z_119.toInt < 2147483648 by omega)
        refine t_lald (n := 601) (i := z_120) rfl (by decide) hx hb hK hT hq_108 (hT.len hq_108 (by decide)) ⟨by omega, by omega⟩ dX3_settle_126 (fun z_121 ez_121 => ?_)
        refine lv_ladd hx hb dX3_settle_127 ?_
        refine lv_topl (fun z_122 ez_122 => ?_)
        refine t_last (n := 601) (i := x3_2) (x := z_122) rfl (by decide) hx hb hK hT hS hq_108 (hT.len hq_108 (by decide)) ⟨by omega, by omega⟩ dX3_settle_128 (fun H locs G_123 eG_123 hT hS => ?_)
        have hF := hF.wL eG_123 hq_108 rfl
        refine lv_iload_n hx hb dX3_settle_129 rfl (lv_at hl 2 rfl) ?_
        refine lv_aload_n hx hb dX3_settle_130 rfl (lv_at hl 3 rfl) ?_
        refine t_geti cf_4 hx hb hts hown hK hT h_a (k := 8) rfl fl_X3_29 (fun _ h9 => h9) dX3_settle_131 (fun z_124 ez_124 rz_124 => ?_)
        have w_125 : z_7 = z_124 := ez_7.trans (ez_124.trans (hF.i h_a (by decide) rfl _)).symm
        subst w_125
        refine lv_iadd hx hb dX3_settle_134 ?_
        refine lv_topi (fun z_126 ez_126 => ?_)
        have tz_126 : z_126.toInt = x3_2.toInt + z_7.toInt := add_t ez_126 (show -2147483648 ≤ x3_2.toInt + z_7.toInt by omega) (show x3_2.toInt + z_7.toInt < 2147483648 by omega)
        refine lv_istore_n (lv' := [(2, .int z_126), (3, .int r_109), (4, .int z_14), (0, .ref a), (1, .int v)]) hx hb dX3_settle_135 rfl hl (by decide) rfl (fun ls hl => ?_)
        refine lv_goto (tgt := 10) hx hb dX3_settle_136 (by decide) ?_
        exact ih3 (z_126, G_123) _ _ _ (by show (700 - z_126.toInt).toNat < (700 - x3_2.toInt).toNat; omega) ⟨(by show 0 ≤ z_126.toInt; omega), (by show z_126.toInt ≤ 700; omega), hF, hT, hS, lv_sub hl [0, 3, 4] rfl⟩
set_option maxHeartbeats 4000000 in
set_option maxRecDepth 100000 in
theorem t_X3_begin (l : Launch) (D : va_G) (cy : Nat → ClassId) (base : Nat) (τ : Nat → Nat) (G : Gh) (a : Nat) (h_a : τ a = 4) (b : Nat) (h_b : τ b = 7) (v : Int32) (w : Int32) (z : Int32) (r_z : 0 ≤ z.toInt ∧ z.toInt ≤ 600) : MM l yX3_begin cX3_begin 7 none 2 0 0 D cy [.ref a, .ref b, .int v, .int w, .int z] (PT D cy base τ G) (QT D cy base τ G [4, 30, 31, 1004] (fun v g => v = none ∧ (True))) (RA base) := by
  refine MM.of (by decide) (Nat.le_of_ble_eq_true rfl) ?_
  intro p e s m below meth c C hPT ls hl
  obtain ⟨hx, hb, hr, hml, hown, hts, hlocks, hK, hnm⟩ := C
  obtain ⟨hZ, hT⟩ := hPT
  have hS : va_S (RA base) s.heap s.heap [] := va_S.rf
  have hF : Fr τ [4, 30, 31, 1004] G G := Fr.rf
  have hl : lv_has ls 7 [(0, .ref a), (1, .ref b), (2, .int v), (3, .int w), (4, .int z)] := hl
  refine lv_aload_n hx hb dX3_begin_0 rfl (lv_at hl 0 rfl) ?_
  refine lv_aload_n hx hb dX3_begin_1 rfl (lv_at hl 1 rfl) ?_
  refine t_putr cf_4 hx hb hts hown hK hT hS h_a (k := 3) rfl ⟨_, rfl, h_b⟩ fl_X3_25 (fun _ h9 => h9) rfl rfl rfl dX3_begin_2 (fun H locs G_1 eG_1 hT hS => ?_)
  have hF := hF.wR eG_1 h_a rfl
  refine lv_aload_n hx hb dX3_begin_5 rfl (lv_at hl 0 rfl) ?_
  refine lv_iload_n hx hb dX3_begin_6 rfl (lv_at hl 2 rfl) ?_
  refine t_puti (x := v) cf_4 hx hb hts hown hK hT hS h_a (k := 4) rfl trivial fl_X3_33 (fun _ h9 => h9) rfl rfl rfl dX3_begin_7 (fun H locs G_2 eG_2 hT hS => ?_)
  have hF := hF.wI eG_2 h_a rfl
  refine lv_aload_n hx hb dX3_begin_10 rfl (lv_at hl 0 rfl) ?_
  refine lv_iload_n hx hb dX3_begin_11 rfl (lv_at hl 3 rfl) ?_
  refine t_puti (x := w) cf_4 hx hb hts hown hK hT hS h_a (k := 5) rfl trivial fl_X3_36 (fun _ h9 => h9) rfl rfl rfl dX3_begin_12 (fun H locs G_3 eG_3 hT hS => ?_)
  have hF := hF.wI eG_3 h_a rfl
  have k_4 : w = G_3.1 a 5 := by rw [eG_3, wI_at]
  refine lv_aload_n hx hb dX3_begin_15 rfl (lv_at hl 0 rfl) ?_
  refine lv_iconst (v := 0) hx hb dX3_begin_16 (by decide) ?_
  refine lv_iload hx hb dX3_begin_17 (lv_at hl 4 rfl) ?_
  refine va_mmax hx hb (by rw [hml]; exact hl.1.symm) hown (hts _ ml_X3_39) (hts _ st_math_max) (hts _ ini_J9) (hts _ co_math_max) (Nat.le_of_ble_eq_true rfl) (Nat.le_of_ble_eq_true rfl) (Nat.le_of_ble_eq_true rfl) (Nat.le_of_ble_eq_true rfl) dX3_begin_19 ?_
  refine lv_topi (fun z_5 ez_5 => ?_)
  have tz_5 : (0 ≤ z_5.toInt ∧ z.toInt ≤ z_5.toInt ∧ (z_5.toInt = 0 ∨ z_5.toInt = z.toInt)) := mmax_t ez_5
  refine t_puti (x := z_5) cf_4 hx hb hts hown hK hT hS h_a (k := 6) rfl (show 0 ≤ z_5.toInt ∧ z_5.toInt ≤ 600 from ⟨by omega, by omega⟩) fl_X3_45 (fun _ h9 => h9) rfl rfl rfl dX3_begin_22 (fun H locs G_6 eG_6 hT hS => ?_)
  have hF := hF.wI eG_6 h_a rfl
  have k_7 : w = G_6.1 a 5 := by rw [eG_6, wI_ne (Or.inr (by decide))]; exact k_4
  refine lv_aload_n hx hb dX3_begin_25 rfl (lv_at hl 0 rfl) ?_
  refine lv_iconst (v := 1) hx hb dX3_begin_26 (by decide) ?_
  refine lv_aload_n hx hb dX3_begin_27 rfl (lv_at hl 1 rfl) ?_
  refine t_geti cf_7 hx hb hts hown hK hT h_b (k := 9) rfl fl_X3_48 (fun _ h9 => h9) dX3_begin_28 (fun z_8 ez_8 rz_8 => ?_)
  have ez_8 : z_8 = G_6.1 b 9 := ez_8
  have rz_8 : 1 ≤ z_8.toInt ∧ z_8.toInt ≤ 50 := rz_8
  have ez_8 : z_8 = G.1 b 9 := ez_8.trans (hF.i h_b (by decide) rfl _)
  refine va_mmax hx hb (by rw [hml]; exact hl.1.symm) hown (hts _ ml_X3_39) (hts _ st_math_max) (hts _ ini_J9) (hts _ co_math_max) (Nat.le_of_ble_eq_true rfl) (Nat.le_of_ble_eq_true rfl) (Nat.le_of_ble_eq_true rfl) (Nat.le_of_ble_eq_true rfl) dX3_begin_31 ?_
  refine lv_topi (fun z_9 ez_9 => ?_)
  have tz_9 : (1 ≤ z_9.toInt ∧ z_8.toInt ≤ z_9.toInt ∧ (z_9.toInt = 1 ∨ z_9.toInt = z_8.toInt)) := mmax_t ez_9
  refine t_puti (x := z_9) cf_4 hx hb hts hown hK hT hS h_a (k := 8) rfl (show 1 ≤ z_9.toInt ∧ z_9.toInt ≤ 50 from ⟨by omega, by omega⟩) fl_X3_29 (fun _ h9 => h9) rfl rfl rfl dX3_begin_34 (fun H locs G_10 eG_10 hT hS => ?_)
  have hF := hF.wI eG_10 h_a rfl
  have k_11 : w = G_10.1 a 5 := by rw [eG_10, wI_ne (Or.inr (by decide))]; exact k_7
  refine lv_aload_n hx hb dX3_begin_37 rfl (lv_at hl 0 rfl) ?_
  refine lv_aload_n hx hb dX3_begin_38 rfl (lv_at hl 0 rfl) ?_
  refine t_geti cf_4 hx hb hts hown hK hT h_a (k := 6) rfl fl_X3_45 (fun _ h9 => h9) dX3_begin_39 (fun z_12 ez_12 rz_12 => ?_)
  have ez_12 : z_12 = G_10.1 a 6 := ez_12
  have rz_12 : 0 ≤ z_12.toInt ∧ z_12.toInt ≤ 600 := rz_12
  refine lv_iconst (v := 1) hx hb dX3_begin_42 (by decide) ?_
  refine lv_isub hx hb dX3_begin_43 ?_
  refine lv_topi (fun z_13 ez_13 => ?_)
  have tz_13 : z_13.toInt = z_12.toInt - 1 := sub_t ez_13 (show -2147483648 ≤ z_12.toInt - 1 by omega) (show z_12.toInt - 1 < 2147483648 by omega)
  refine t_puti (x := z_13) cf_4 hx hb hts hown hK hT hS h_a (k := 7) rfl (show -1 ≤ z_13.toInt ∧ z_13.toInt ≤ 600 from ⟨by omega, by omega⟩) fl_X3_49 (fun _ h9 => h9) rfl rfl rfl dX3_begin_44 (fun H locs G_14 eG_14 hT hS => ?_)
  have hF := hF.wI eG_14 h_a rfl
  have k_15 : w = G_14.1 a 5 := by rw [eG_14, wI_ne (Or.inr (by decide))]; exact k_11
  have k_16 : z_13 = G_14.1 a 7 := by rw [eG_14, wI_at]
  refine lv_aload_n hx hb dX3_begin_47 rfl (lv_at hl 0 rfl) ?_
  refine t_getr cf_4 hx hb hts hown hK hT h_a (k := 3) (P := fun q => τ q = 7) rfl (fun _ h9 => h9) fl_X3_25 (fun _ h9 => h9) dX3_begin_48 (fun q_17 eq_17 hq_17 => ?_)
  refine lv_aload_n hx hb dX3_begin_51 rfl (lv_at hl 0 rfl) ?_
  refine t_geti cf_4 hx hb hts hown hK hT h_a (k := 4) rfl fl_X3_33 (fun _ h9 => h9) dX3_begin_52 (fun z_18 ez_18 rz_18 => ?_)
  have ez_18 : z_18 = G_14.1 a 4 := ez_18
  refine lv_aload_n hx hb dX3_begin_55 rfl (lv_at hl 0 rfl) ?_
  refine t_geti cf_4 hx hb hts hown hK hT h_a (k := 5) rfl fl_X3_36 (fun _ h9 => h9) dX3_begin_56 (fun z_19 ez_19 rz_19 => ?_)
  have w_20 : w = z_19 := k_15.trans ez_19.symm
  subst w_20
  refine pu_calli (runV (As := [.int z_18, .int w]) (rest := []) ⟨hx, hb, hml, hown, hts⟩ (t_X2_hasStore l D cy base τ G_14 q_17 hq_17 z_18 w) sV_X3_52 hK (t_recv cf_7 hK hT hq_17) ⟨Nat.le_trans hZ hS.1, hT⟩ ⟨Nat.le_of_ble_eq_true rfl, Nat.le_of_ble_eq_true rfl⟩ rfl hl.1 rfl (Nat.le_of_ble_eq_true rfl) dX3_begin_59 ⟨Nat.le_of_ble_eq_true rfl, Nat.le_of_ble_eq_true rfl⟩) (fun r_21 hr_21 => ?_)
  have hr_21_c := hr_21
  rcases hr_21_c with hr_21_0 | hr_21_1
  · skip
    obtain ⟨er_21, hr_21_0_f0, hr_21_0_f1, hr_21_0_f2, hr_21_0_f3⟩ := hr_21_0
    have hr_21_0_f0 : 0 ≤ z_18.toInt := hr_21_0_f0
    have hr_21_0_f1 : z_18.toInt ≤ 5 := hr_21_0_f1
    have hr_21_0_f2 : 0 ≤ w.toInt := hr_21_0_f2
    have hr_21_0_f3 : w.toInt ≤ 2 := hr_21_0_f3
    subst er_21
    refine W.eq (g2 := F0 m 62 ls [.int 1]) rfl ?_
    refine lv_if_eq (tgt := 75) hx hb dX3_begin_62 (by decide) (fun c_22 => absurd c_22 (by decide)) (fun _ => ?_)
    refine lv_aload_n hx hb dX3_begin_65 rfl (lv_at hl 0 rfl) ?_
    refine t_geti cf_4 hx hb hts hown hK hT h_a (k := 6) rfl fl_X3_45 (fun _ h9 => h9) dX3_begin_66 (fun z_23 ez_23 rz_23 => ?_)
    have ez_23 : z_23 = G_14.1 a 6 := ez_23
    have rz_23 : 0 ≤ z_23.toInt ∧ z_23.toInt ≤ 600 := rz_23
    refine lv_sipush (v := 600) hx hb dX3_begin_69 (by decide) ?_
    refine lv_icmp_le (tgt := 76) hx hb dX3_begin_72 (by decide) (fun c_24 => ?_) (fun c_24 => ?_)
    · skip
      have tc_24 : z_23.toInt ≤ 600 := (fa_le _ _).mp c_24
      refine lv_aload_n hx hb dX3_begin_76 rfl (lv_at hl 0 rfl) ?_
      refine t_getr cf_4 hx hb hts hown hK hT h_a (k := 3) (P := fun q => τ q = 7) rfl (fun _ h9 => h9) fl_X3_25 (fun _ h9 => h9) dX3_begin_77 (fun q_25 eq_25 hq_25 => ?_)
      refine lv_aload_n hx hb dX3_begin_80 rfl (lv_at hl 0 rfl) ?_
      refine t_geti cf_4 hx hb hts hown hK hT h_a (k := 4) rfl fl_X3_33 (fun _ h9 => h9) dX3_begin_81 (fun z_26 ez_26 rz_26 => ?_)
      have w_27 : z_18 = z_26 := ez_18.trans ez_26.symm
      subst w_27
      refine lv_aload_n hx hb dX3_begin_84 rfl (lv_at hl 0 rfl) ?_
      refine t_geti cf_4 hx hb hts hown hK hT h_a (k := 5) rfl fl_X3_36 (fun _ h9 => h9) dX3_begin_85 (fun z_28 ez_28 rz_28 => ?_)
      have w_29 : w = z_28 := k_15.trans ez_28.symm
      subst w_29
      refine lv_iconst (v := 1) hx hb dX3_begin_88 (by decide) ?_
      refine pu_calli (runV (As := [.int z_18, .int w, .int 1]) (rest := []) ⟨hx, hb, hml, hown, hts⟩ (t_X2_wanted l D cy base τ G_14 q_25 hq_25 z_18 w 1) sV_X3_56 hK (t_recv cf_7 hK hT hq_25) ⟨Nat.le_trans hZ hS.1, hT⟩ ⟨Nat.le_of_ble_eq_true rfl, Nat.le_of_ble_eq_true rfl⟩ rfl hl.1 rfl (Nat.le_of_ble_eq_true rfl) dX3_begin_89 ⟨Nat.le_of_ble_eq_true rfl, Nat.le_of_ble_eq_true rfl⟩) (fun r_30 hr_30 => ?_)
      refine lv_istore (lv' := [(5, .int r_30), (0, .ref a), (1, .ref b), (2, .int v), (3, .int w), (4, .int z)]) hx hb dX3_begin_92 hl (by decide) rfl (fun ls hl => ?_)
      refine lv_aload_n hx hb dX3_begin_94 rfl (lv_at hl 1 rfl) ?_
      refine lv_aload_n hx hb dX3_begin_95 rfl (lv_at hl 1 rfl) ?_
      refine t_geti cf_4 hx hb hts hown hK hT h_a (k := 6) rfl fl_X3_45 (fun _ h9 => h9) dX3_begin_96 (fun z_31 ez_31 rz_31 => ?_)
      have w_32 : z_23 = z_31 := ez_23.trans ez_31.symm
      subst w_32
      refine t_puti (x := z_23) cf_4 hx hb hts hown hK hT hS h_a (k := 7) rfl (show -1 ≤ z_23.toInt ∧ z_23.toInt ≤ 600 from ⟨by omega, by omega⟩) fl_X3_49 (fun _ h9 => h9) rfl rfl rfl dX3_begin_99 (fun H locs G_33 eG_33 hT hS => ?_)
      have hF := hF.wI eG_33 h_a rfl
      have k_34 : w = G_33.1 a 5 := by rw [eG_33, wI_ne (Or.inr (by decide))]; exact k_15
      have k_36 : z_23 = G_33.1 a 7 := by rw [eG_33, wI_at]
      refine W.loop (σ := Gh) (fun w37 H locs ls => w = w37.1 a 5 ∧ Fr τ [4, 30, 31, 1004] G w37 ∧ TY D cy base τ w37 H ∧ va_S (RA base) s.heap H locs ∧ lv_has ls 7 [(5, .int r_30), (0, .ref a), (1, .ref b), (2, .int v), (3, .int w), (4, .int z)]) (fun w37 => (600 - (w37.1 a 7).toInt).toNat) ?_ (G_33) _ _ _ ⟨(by show w = G_33.1 a 5; exact k_34), hF, hT, hS, lv_sub hl [0, 1, 2, 3, 4, 5] rfl⟩
      intro w37 H locs ls hI ih37
      obtain ⟨G_37, e9⟩ : ∃ y, y = w37 := ⟨_, rfl⟩
      subst e9
      obtain ⟨i37_0, hF, hT, hS, hl⟩ := hI
      have i37_0 : w = G_37.1 a 5 := i37_0
      have hF : Fr τ [4, 30, 31, 1004] G G_37 := hF
      have hT : TY D cy base τ G_37 H := hT
      have hS : va_S (RA base) s.heap H locs := hS
      have hl : lv_has ls 7 [(5, .int r_30), (0, .ref a), (1, .ref b), (2, .int v), (3, .int w), (4, .int z)] := hl
      refine lv_aload_n hx hb dX3_begin_102 rfl (lv_at hl 1 rfl) ?_
      refine t_geti cf_4 hx hb hts hown hK hT h_a (k := 7) rfl fl_X3_49 (fun _ h9 => h9) dX3_begin_103 (fun z_38 ez_38 rz_38 => ?_)
      have ez_38 : z_38 = G_37.1 a 7 := ez_38
      have rz_38 : -1 ≤ z_38.toInt ∧ z_38.toInt ≤ 600 := rz_38
      refine lv_iload hx hb dX3_begin_106 (lv_at hl 0 rfl) ?_
      refine lv_icmp_ge (tgt := 142) hx hb dX3_begin_108 (by decide) (fun c_39 => ?_) (fun c_39 => ?_)
      · skip
        have tc_39 : r_30.toInt ≤ z_38.toInt := (fa_le _ _).mp c_39
        refine lv_aload_n hx hb dX3_begin_142 rfl (lv_at hl 1 rfl) ?_
        refine lv_ldc2 (v := 1000) hx hb hown (hts _ kl_X3_60) dX3_begin_143 ?_
        refine lv_aload_n hx hb dX3_begin_146 rfl (lv_at hl 1 rfl) ?_
        refine t_getr cf_4 hx hb hts hown hK hT h_a (k := 3) (P := fun q => τ q = 7) rfl (fun _ h9 => h9) fl_X3_25 (fun _ h9 => h9) dX3_begin_147 (fun q_40 eq_40 hq_40 => ?_)
        refine t_geti cf_7 hx hb hts hown hK hT hq_40 (k := 10) rfl fl_X3_62 (fun _ h9 => h9) dX3_begin_150 (fun z_41 ez_41 rz_41 => ?_)
        have ez_41 : z_41 = G_37.1 q_40 10 := ez_41
        have ez_41 : z_41 = G.1 q_40 10 := ez_41.trans (hF.i hq_40 (by decide) rfl _)
        refine lv_aload_n hx hb dX3_begin_153 rfl (lv_at hl 1 rfl) ?_
        refine t_geti cf_4 hx hb hts hown hK hT h_a (k := 8) rfl fl_X3_29 (fun _ h9 => h9) dX3_begin_154 (fun z_42 ez_42 rz_42 => ?_)
        have ez_42 : z_42 = G_37.1 a 8 := ez_42
        have rz_42 : 1 ≤ z_42.toInt ∧ z_42.toInt ≤ 50 := rz_42
        refine lv_aload_n hx hb dX3_begin_157 rfl (lv_at hl 1 rfl) ?_
        refine t_getr cf_4 hx hb hts hown hK hT h_a (k := 3) (P := fun q => τ q = 7) rfl (fun _ h9 => h9) fl_X3_25 (fun _ h9 => h9) dX3_begin_158 (fun q_43 eq_43 hq_43 => ?_)
        refine t_getr cf_7 hx hb hts hown hK hT hq_43 (k := 14) (P := fun q => τ q = 26) rfl (fun _ h9 => h9) fl_X3_65 (fun _ h9 => h9) dX3_begin_161 (fun q_44 eq_44 hq_44 => ?_)
        have eq_44 := (hF.r hq_43 (by decide) rfl _).symm.trans eq_44
        refine lv_aload_n hx hb dX3_begin_164 rfl (lv_at hl 1 rfl) ?_
        refine t_geti cf_4 hx hb hts hown hK hT h_a (k := 5) rfl fl_X3_36 (fun _ h9 => h9) dX3_begin_165 (fun z_45 ez_45 rz_45 => ?_)
        have w_46 : w = z_45 := i37_0.trans ez_45.symm
        subst w_46
        refine t_iald (n := 3) (i := w) rfl (by decide) hx hb hK hT hq_44 (hT.len hq_44 (by decide)) ⟨by omega, by omega⟩ dX3_begin_168 (fun z_47 ez_47 rz_47 => ?_)
        have ez_47 : z_47 = G.1 q_44 w.toNatClampNeg := ez_47.trans (hF.i hq_44 (by decide) rfl _)
        refine lv_imul hx hb dX3_begin_169 ?_
        refine lv_topi (fun z_48 ez_48 => ?_)
        refine lv_iadd hx hb dX3_begin_170 ?_
        refine lv_topi (fun z_49 ez_49 => ?_)
        refine lv_i2l hx hb dX3_begin_171 rfl ?_
        refine lv_topl (fun z_50 ez_50 => ?_)
        have tz_50 : z_50.toInt = z_49.toInt := by rw [ez_50]; exact wide_t z_49
        have az_50 := min_t z_49
        have bz_50 := max_t z_49
        refine lv_lmul hx hb dX3_begin_172 ?_
        refine lv_topl (fun z_51 ez_51 => ?_)
        have tz_51 : z_51.toInt = 1000 * z_50.toInt := mul_t64 ez_51 (show -9223372036854775808 ≤ 1000 * z_50.toInt by omega) (show 1000 * z_50.toInt < 9223372036854775808 by omega)
        refine t_putl (x := z_51) cf_4 hx hb hts hown hK hT hS h_a (k := 9) rfl fl_X3_68 (fun _ h9 => h9) rfl rfl rfl dX3_begin_173 (fun H locs G_52 eG_52 hT hS => ?_)
        have hF := hF.wL eG_52 h_a rfl
        have k_53 : w = G_52.1 a 5 := by rw [eG_52]; exact i37_0
        have k_54 : z_38 = G_52.1 a 7 := by rw [eG_52]; exact ez_38
        refine lv_aload_n hx hb dX3_begin_176 rfl (lv_at hl 1 rfl) ?_
        refine t_geti cf_4 hx hb hts hown hK hT h_a (k := 6) rfl fl_X3_45 (fun _ h9 => h9) dX3_begin_177 (fun z_55 ez_55 rz_55 => ?_)
        have ez_55 : z_55 = G_52.1 a 6 := ez_55
        have rz_55 : 0 ≤ z_55.toInt ∧ z_55.toInt ≤ 600 := rz_55
        refine lv_istore (lv' := [(6, .int z_55), (5, .int r_30), (0, .ref a), (1, .ref b), (2, .int v), (3, .int w), (4, .int z)]) hx hb dX3_begin_180 hl (by decide) rfl (fun ls hl => ?_)
        refine W.loop (σ := Int32 × Gh) (fun w56 H locs ls => 0 ≤ w56.1.toInt ∧ w56.1.toInt ≤ 700 ∧ w = w56.2.1 a 5 ∧ Fr τ [4, 30, 31, 1004] G w56.2 ∧ TY D cy base τ w56.2 H ∧ va_S (RA base) s.heap H locs ∧ lv_has ls 7 [(6, .int w56.1), (5, .int r_30), (0, .ref a), (1, .ref b), (2, .int v), (3, .int w), (4, .int z)]) (fun w56 => (700 - w56.1.toInt).toNat) ?_ (z_55, G_52) _ _ _ ⟨(by show 0 ≤ z_55.toInt; omega), (by show z_55.toInt ≤ 700; omega), (by show w = G_52.1 a 5; exact k_53), hF, hT, hS, lv_sub hl [0, 1, 2, 3, 4, 5, 6] rfl⟩
        intro w56 H locs ls hI ih56
        obtain ⟨x56_6, G_56⟩ := w56
        obtain ⟨i56_0, i56_1, i56_2, hF, hT, hS, hl⟩ := hI
        have i56_0 : 0 ≤ x56_6.toInt := i56_0
        have i56_1 : x56_6.toInt ≤ 700 := i56_1
        have i56_2 : w = G_56.1 a 5 := i56_2
        have hF : Fr τ [4, 30, 31, 1004] G G_56 := hF
        have hT : TY D cy base τ G_56 H := hT
        have hS : va_S (RA base) s.heap H locs := hS
        have hl : lv_has ls 7 [(6, .int x56_6), (5, .int r_30), (0, .ref a), (1, .ref b), (2, .int v), (3, .int w), (4, .int z)] := hl
        refine lv_iload hx hb dX3_begin_182 (lv_at hl 0 rfl) ?_
        refine lv_aload_n hx hb dX3_begin_184 rfl (lv_at hl 2 rfl) ?_
        refine t_geti cf_4 hx hb hts hown hK hT h_a (k := 7) rfl fl_X3_49 (fun _ h9 => h9) dX3_begin_185 (fun z_57 ez_57 rz_57 => ?_)
        have ez_57 : z_57 = G_56.1 a 7 := ez_57
        have rz_57 : -1 ≤ z_57.toInt ∧ z_57.toInt ≤ 600 := rz_57
        refine lv_icmp_gt (tgt := 253) hx hb dX3_begin_188 (by decide) (fun c_58 => ?_) (fun c_58 => ?_)
        · skip
          have tc_58 : z_57.toInt < x56_6.toInt := (fa_lt _ _).mp c_58
          exact ret_v hx hb hr hlocks ⟨⟨hS.1, hS.2.1⟩, G_56, hF, ⟨rfl, trivial⟩, hT⟩ hS.2.2 (Nat.le_of_ble_eq_true rfl) (Nat.le_of_ble_eq_true rfl) dX3_begin_253
        · skip
          have tc_58 : ¬ z_57.toInt < x56_6.toInt := fun h => c_58 ((fa_lt _ _).mpr h)
          refine lv_aload_n hx hb dX3_begin_191 rfl (lv_at hl 2 rfl) ?_
          refine t_getr cf_4 hx hb hts hown hK hT h_a (k := 0) (P := fun q => τ q = 30) rfl (fun _ h9 => h9) fl_X3_9 (fun _ h9 => h9) dX3_begin_192 (fun q_59 eq_59 hq_59 => ?_)
          refine lv_iload hx hb dX3_begin_195 (lv_at hl 0 rfl) ?_
          refine lv_ldc2 (v := 1000) hx hb hown (hts _ kl_X3_60) dX3_begin_197 ?_
          refine lv_aload_n hx hb dX3_begin_200 rfl (lv_at hl 2 rfl) ?_
          refine t_getr cf_4 hx hb hts hown hK hT h_a (k := 3) (P := fun q => τ q = 7) rfl (fun _ h9 => h9) fl_X3_25 (fun _ h9 => h9) dX3_begin_201 (fun q_60 eq_60 hq_60 => ?_)
          refine t_getr cf_7 hx hb hts hown hK hT hq_60 (k := 16) (P := fun q => τ q = 26) rfl (fun _ h9 => h9) fl_X3_71 (fun _ h9 => h9) dX3_begin_204 (fun q_61 eq_61 hq_61 => ?_)
          have eq_61 := (hF.r hq_60 (by decide) rfl _).symm.trans eq_61
          refine lv_aload_n hx hb dX3_begin_207 rfl (lv_at hl 2 rfl) ?_
          refine t_geti cf_4 hx hb hts hown hK hT h_a (k := 5) rfl fl_X3_36 (fun _ h9 => h9) dX3_begin_208 (fun z_62 ez_62 rz_62 => ?_)
          have w_63 : w = z_62 := i56_2.trans ez_62.symm
          subst w_63
          refine t_iald (n := 3) (i := w) rfl (by decide) hx hb hK hT hq_61 (hT.len hq_61 (by decide)) ⟨by omega, by omega⟩ dX3_begin_211 (fun z_64 ez_64 rz_64 => ?_)
          have ez_64 : z_64 = G.1 q_61 w.toNatClampNeg := ez_64.trans (hF.i hq_61 (by decide) rfl _)
          refine lv_i2l hx hb dX3_begin_212 rfl ?_
          refine lv_topl (fun z_65 ez_65 => ?_)
          have tz_65 : z_65.toInt = z_64.toInt := by rw [ez_65]; exact wide_t z_64
          have az_65 := min_t z_64
          have bz_65 := max_t z_64
          refine lv_lmul hx hb dX3_begin_213 ?_
          refine lv_topl (fun z_66 ez_66 => ?_)
          have tz_66 : z_66.toInt = 1000 * z_65.toInt := mul_t64 ez_66 (show -9223372036854775808 ≤ 1000 * z_65.toInt by omega) (show 1000 * z_65.toInt < 9223372036854775808 by omega)
          refine lv_iload hx hb dX3_begin_214 (lv_at hl 0 rfl) ?_
          refine lv_i2l hx hb dX3_begin_216 rfl ?_
          refine lv_topl (fun z_67 ez_67 => ?_)
          have tz_67 : z_67.toInt = x56_6.toInt := by rw [ez_67]; exact wide_t x56_6
          refine lv_lmul hx hb dX3_begin_217 ?_
          refine lv_topl (fun z_68 ez_68 => ?_)
          refine t_last (n := 601) (i := x56_6) (x := z_68) rfl (by decide) hx hb hK hT hS hq_59 (hT.len hq_59 (by decide)) ⟨by omega, by omega⟩ dX3_begin_218 (fun H locs G_69 eG_69 hT hS => ?_)
          have hF := hF.wL eG_69 hq_59 rfl
          have k_70 : w = G_69.1 a 5 := by rw [eG_69]; exact i56_2
          have k_71 : z_57 = G_69.1 a 7 := by rw [eG_69]; exact ez_57
          refine lv_aload_n hx hb dX3_begin_219 rfl (lv_at hl 2 rfl) ?_
          refine t_getr cf_4 hx hb hts hown hK hT h_a (k := 1) (P := fun q => τ q = 30) rfl (fun _ h9 => h9) fl_X3_15 (fun _ h9 => h9) dX3_begin_220 (fun q_72 eq_72 hq_72 => ?_)
          refine lv_iload hx hb dX3_begin_223 (lv_at hl 0 rfl) ?_
          refine lv_aload_n hx hb dX3_begin_225 rfl (lv_at hl 2 rfl) ?_
          refine t_getr cf_4 hx hb hts hown hK hT h_a (k := 0) (P := fun q => τ q = 30) rfl (fun _ h9 => h9) fl_X3_9 (fun _ h9 => h9) dX3_begin_226 (fun q_73 eq_73 hq_73 => ?_)
          refine lv_iload hx hb dX3_begin_229 (lv_at hl 0 rfl) ?_
          refine t_lald (n := 601) (i := x56_6) rfl (by decide) hx hb hK hT hq_73 (hT.len hq_73 (by decide)) ⟨by omega, by omega⟩ dX3_begin_231 (fun z_74 ez_74 => ?_)
          refine t_last (n := 601) (i := x56_6) (x := z_74) rfl (by decide) hx hb hK hT hS hq_72 (hT.len hq_72 (by decide)) ⟨by omega, by omega⟩ dX3_begin_232 (fun H locs G_75 eG_75 hT hS => ?_)
          have hF := hF.wL eG_75 hq_72 rfl
          have k_76 : w = G_75.1 a 5 := by rw [eG_75]; exact k_70
          have k_77 : z_57 = G_75.1 a 7 := by rw [eG_75]; exact k_71
          refine lv_aload_n hx hb dX3_begin_233 rfl (lv_at hl 2 rfl) ?_
          refine t_getr cf_4 hx hb hts hown hK hT h_a (k := 2) (P := fun q => τ q = 31) rfl (fun _ h9 => h9) fl_X3_18 (fun _ h9 => h9) dX3_begin_234 (fun q_78 eq_78 hq_78 => ?_)
          refine lv_iload hx hb dX3_begin_237 (lv_at hl 0 rfl) ?_
          refine lv_iconst (v := (-1)) hx hb dX3_begin_239 (by decide) ?_
          refine t_iast (n := 601) (i := x56_6) (x := (-1)) rfl (by decide) hx hb hK hT hS hq_78 (hT.len hq_78 (by decide)) ⟨by omega, by omega⟩ trivial dX3_begin_240 (fun H locs G_79 eG_79 hT hS => ?_)
          have hF := hF.wI eG_79 hq_78 rfl
          have k_80 : w = G_79.1 a 5 := by rw [eG_79, wI_ne (Or.inl (tag_ne hq_78 h_a (by decide)))]; exact k_76
          have k_81 : z_57 = G_79.1 a 7 := by rw [eG_79, wI_ne (Or.inl (tag_ne hq_78 h_a (by decide)))]; exact k_77
          refine lv_iload hx hb dX3_begin_241 (lv_at hl 0 rfl) ?_
          refine lv_aload_n hx hb dX3_begin_243 rfl (lv_at hl 2 rfl) ?_
          refine t_geti cf_4 hx hb hts hown hK hT h_a (k := 8) rfl fl_X3_29 (fun _ h9 => h9) dX3_begin_244 (fun z_82 ez_82 rz_82 => ?_)
          have ez_82 : z_82 = G_79.1 a 8 := ez_82
          have rz_82 : 1 ≤ z_82.toInt ∧ z_82.toInt ≤ 50 := rz_82
          refine lv_iadd hx hb dX3_begin_247 ?_
          refine lv_topi (fun z_83 ez_83 => ?_)
          have tz_83 : z_83.toInt = x56_6.toInt + z_82.toInt := add_t ez_83 (show -2147483648 ≤ x56_6.toInt + z_82.toInt by omega) (show x56_6.toInt + z_82.toInt < 2147483648 by omega)
          refine lv_istore (lv' := [(6, .int z_83), (5, .int r_30), (0, .ref a), (1, .ref b), (2, .int v), (3, .int w), (4, .int z)]) hx hb dX3_begin_248 hl (by decide) rfl (fun ls hl => ?_)
          refine lv_goto (tgt := 182) hx hb dX3_begin_250 (by decide) ?_
          exact ih56 (z_83, G_79) _ _ _ (by show (700 - z_83.toInt).toNat < (700 - x56_6.toInt).toNat; omega) ⟨(by show 0 ≤ z_83.toInt; omega), (by show z_83.toInt ≤ 700; omega), (show w = G_79.1 a 5 from by first | exact k_80 | omega), hF, hT, hS, lv_sub hl [0, 1, 2, 3, 4, 5, 6] rfl⟩
      · skip
        have tc_39 : ¬ r_30.toInt ≤ z_38.toInt := fun h => c_39 ((fa_le _ _).mpr h)
        have mc_39 : r_30.toInt ≤ 2147483647 := max_t r_30
        refine lv_aload_n hx hb dX3_begin_111 rfl (lv_at hl 1 rfl) ?_
        refine t_geti cf_4 hx hb hts hown hK hT h_a (k := 7) rfl fl_X3_49 (fun _ h9 => h9) dX3_begin_112 (fun z_84 ez_84 rz_84 => ?_)
        have w_85 : z_38 = z_84 := ez_38.trans ez_84.symm
        subst w_85
        refine lv_aload_n hx hb dX3_begin_115 rfl (lv_at hl 1 rfl) ?_
        refine t_geti cf_4 hx hb hts hown hK hT h_a (k := 8) rfl fl_X3_29 (fun _ h9 => h9) dX3_begin_116 (fun z_86 ez_86 rz_86 => ?_)
        have ez_86 : z_86 = G_37.1 a 8 := ez_86
        have rz_86 : 1 ≤ z_86.toInt ∧ z_86.toInt ≤ 50 := rz_86
        refine lv_iadd hx hb dX3_begin_119 ?_
        refine lv_topi (fun z_87 ez_87 => ?_)
        have tz_87 : z_87.toInt = z_38.toInt + z_86.toInt := add_t ez_87 (show -2147483648 ≤ z_38.toInt + z_86.toInt by omega) (show z_38.toInt + z_86.toInt < 2147483648 by omega)
        refine lv_sipush (v := 600) hx hb dX3_begin_120 (by decide) ?_
        refine lv_icmp_gt (tgt := 142) hx hb dX3_begin_123 (by decide) (fun c_88 => ?_) (fun c_88 => ?_)
        · skip
          have tc_88 : 600 < z_87.toInt := (fa_lt _ _).mp c_88
          refine lv_aload_n hx hb dX3_begin_142 rfl (lv_at hl 1 rfl) ?_
          refine lv_ldc2 (v := 1000) hx hb hown (hts _ kl_X3_60) dX3_begin_143 ?_
          refine lv_aload_n hx hb dX3_begin_146 rfl (lv_at hl 1 rfl) ?_
          refine t_getr cf_4 hx hb hts hown hK hT h_a (k := 3) (P := fun q => τ q = 7) rfl (fun _ h9 => h9) fl_X3_25 (fun _ h9 => h9) dX3_begin_147 (fun q_89 eq_89 hq_89 => ?_)
          refine t_geti cf_7 hx hb hts hown hK hT hq_89 (k := 10) rfl fl_X3_62 (fun _ h9 => h9) dX3_begin_150 (fun z_90 ez_90 rz_90 => ?_)
          have ez_90 : z_90 = G_37.1 q_89 10 := ez_90
          have ez_90 : z_90 = G.1 q_89 10 := ez_90.trans (hF.i hq_89 (by decide) rfl _)
          refine lv_aload_n hx hb dX3_begin_153 rfl (lv_at hl 1 rfl) ?_
          refine t_geti cf_4 hx hb hts hown hK hT h_a (k := 8) rfl fl_X3_29 (fun _ h9 => h9) dX3_begin_154 (fun z_91 ez_91 rz_91 => ?_)
          have w_92 : z_86 = z_91 := ez_86.trans ez_91.symm
          subst w_92
          refine lv_aload_n hx hb dX3_begin_157 rfl (lv_at hl 1 rfl) ?_
          refine t_getr cf_4 hx hb hts hown hK hT h_a (k := 3) (P := fun q => τ q = 7) rfl (fun _ h9 => h9) fl_X3_25 (fun _ h9 => h9) dX3_begin_158 (fun q_93 eq_93 hq_93 => ?_)
          refine t_getr cf_7 hx hb hts hown hK hT hq_93 (k := 14) (P := fun q => τ q = 26) rfl (fun _ h9 => h9) fl_X3_65 (fun _ h9 => h9) dX3_begin_161 (fun q_94 eq_94 hq_94 => ?_)
          have eq_94 := (hF.r hq_93 (by decide) rfl _).symm.trans eq_94
          refine lv_aload_n hx hb dX3_begin_164 rfl (lv_at hl 1 rfl) ?_
          refine t_geti cf_4 hx hb hts hown hK hT h_a (k := 5) rfl fl_X3_36 (fun _ h9 => h9) dX3_begin_165 (fun z_95 ez_95 rz_95 => ?_)
          have w_96 : w = z_95 := i37_0.trans ez_95.symm
          subst w_96
          refine t_iald (n := 3) (i := w) rfl (by decide) hx hb hK hT hq_94 (hT.len hq_94 (by decide)) ⟨by omega, by omega⟩ dX3_begin_168 (fun z_97 ez_97 rz_97 => ?_)
          have ez_97 : z_97 = G.1 q_94 w.toNatClampNeg := ez_97.trans (hF.i hq_94 (by decide) rfl _)
          refine lv_imul hx hb dX3_begin_169 ?_
          refine lv_topi (fun z_98 ez_98 => ?_)
          refine lv_iadd hx hb dX3_begin_170 ?_
          refine lv_topi (fun z_99 ez_99 => ?_)
          refine lv_i2l hx hb dX3_begin_171 rfl ?_
          refine lv_topl (fun z_100 ez_100 => ?_)
          have tz_100 : z_100.toInt = z_99.toInt := by rw [ez_100]; exact wide_t z_99
          have az_100 := min_t z_99
          have bz_100 := max_t z_99
          refine lv_lmul hx hb dX3_begin_172 ?_
          refine lv_topl (fun z_101 ez_101 => ?_)
          have tz_101 : z_101.toInt = 1000 * z_100.toInt := mul_t64 ez_101 (show -9223372036854775808 ≤ 1000 * z_100.toInt by omega) (show 1000 * z_100.toInt < 9223372036854775808 by omega)
          refine t_putl (x := z_101) cf_4 hx hb hts hown hK hT hS h_a (k := 9) rfl fl_X3_68 (fun _ h9 => h9) rfl rfl rfl dX3_begin_173 (fun H locs G_102 eG_102 hT hS => ?_)
          have hF := hF.wL eG_102 h_a rfl
          have k_103 : w = G_102.1 a 5 := by rw [eG_102]; exact i37_0
          have k_104 : z_38 = G_102.1 a 7 := by rw [eG_102]; exact ez_38
          refine lv_aload_n hx hb dX3_begin_176 rfl (lv_at hl 1 rfl) ?_
          refine t_geti cf_4 hx hb hts hown hK hT h_a (k := 6) rfl fl_X3_45 (fun _ h9 => h9) dX3_begin_177 (fun z_105 ez_105 rz_105 => ?_)
          have ez_105 : z_105 = G_102.1 a 6 := ez_105
          have rz_105 : 0 ≤ z_105.toInt ∧ z_105.toInt ≤ 600 := rz_105
          refine lv_istore (lv' := [(6, .int z_105), (5, .int r_30), (0, .ref a), (1, .ref b), (2, .int v), (3, .int w), (4, .int z)]) hx hb dX3_begin_180 hl (by decide) rfl (fun ls hl => ?_)
          refine W.loop (σ := Int32 × Gh) (fun w106 H locs ls => 0 ≤ w106.1.toInt ∧ w106.1.toInt ≤ 700 ∧ w = w106.2.1 a 5 ∧ Fr τ [4, 30, 31, 1004] G w106.2 ∧ TY D cy base τ w106.2 H ∧ va_S (RA base) s.heap H locs ∧ lv_has ls 7 [(6, .int w106.1), (5, .int r_30), (0, .ref a), (1, .ref b), (2, .int v), (3, .int w), (4, .int z)]) (fun w106 => (700 - w106.1.toInt).toNat) ?_ (z_105, G_102) _ _ _ ⟨(by show 0 ≤ z_105.toInt; omega), (by show z_105.toInt ≤ 700; omega), (by show w = G_102.1 a 5; exact k_103), hF, hT, hS, lv_sub hl [0, 1, 2, 3, 4, 5, 6] rfl⟩
          intro w106 H locs ls hI ih106
          obtain ⟨x106_6, G_106⟩ := w106
          obtain ⟨i106_0, i106_1, i106_2, hF, hT, hS, hl⟩ := hI
          have i106_0 : 0 ≤ x106_6.toInt := i106_0
          have i106_1 : x106_6.toInt ≤ 700 := i106_1
          have i106_2 : w = G_106.1 a 5 := i106_2
          have hF : Fr τ [4, 30, 31, 1004] G G_106 := hF
          have hT : TY D cy base τ G_106 H := hT
          have hS : va_S (RA base) s.heap H locs := hS
          have hl : lv_has ls 7 [(6, .int x106_6), (5, .int r_30), (0, .ref a), (1, .ref b), (2, .int v), (3, .int w), (4, .int z)] := hl
          refine lv_iload hx hb dX3_begin_182 (lv_at hl 0 rfl) ?_
          refine lv_aload_n hx hb dX3_begin_184 rfl (lv_at hl 2 rfl) ?_
          refine t_geti cf_4 hx hb hts hown hK hT h_a (k := 7) rfl fl_X3_49 (fun _ h9 => h9) dX3_begin_185 (fun z_107 ez_107 rz_107 => ?_)
          have ez_107 : z_107 = G_106.1 a 7 := ez_107
          have rz_107 : -1 ≤ z_107.toInt ∧ z_107.toInt ≤ 600 := rz_107
          refine lv_icmp_gt (tgt := 253) hx hb dX3_begin_188 (by decide) (fun c_108 => ?_) (fun c_108 => ?_)
          · skip
            have tc_108 : z_107.toInt < x106_6.toInt := (fa_lt _ _).mp c_108
            exact ret_v hx hb hr hlocks ⟨⟨hS.1, hS.2.1⟩, G_106, hF, ⟨rfl, trivial⟩, hT⟩ hS.2.2 (Nat.le_of_ble_eq_true rfl) (Nat.le_of_ble_eq_true rfl) dX3_begin_253
          · skip
            have tc_108 : ¬ z_107.toInt < x106_6.toInt := fun h => c_108 ((fa_lt _ _).mpr h)
            refine lv_aload_n hx hb dX3_begin_191 rfl (lv_at hl 2 rfl) ?_
            refine t_getr cf_4 hx hb hts hown hK hT h_a (k := 0) (P := fun q => τ q = 30) rfl (fun _ h9 => h9) fl_X3_9 (fun _ h9 => h9) dX3_begin_192 (fun q_109 eq_109 hq_109 => ?_)
            refine lv_iload hx hb dX3_begin_195 (lv_at hl 0 rfl) ?_
            refine lv_ldc2 (v := 1000) hx hb hown (hts _ kl_X3_60) dX3_begin_197 ?_
            refine lv_aload_n hx hb dX3_begin_200 rfl (lv_at hl 2 rfl) ?_
            refine t_getr cf_4 hx hb hts hown hK hT h_a (k := 3) (P := fun q => τ q = 7) rfl (fun _ h9 => h9) fl_X3_25 (fun _ h9 => h9) dX3_begin_201 (fun q_110 eq_110 hq_110 => ?_)
            refine t_getr cf_7 hx hb hts hown hK hT hq_110 (k := 16) (P := fun q => τ q = 26) rfl (fun _ h9 => h9) fl_X3_71 (fun _ h9 => h9) dX3_begin_204 (fun q_111 eq_111 hq_111 => ?_)
            have eq_111 := (hF.r hq_110 (by decide) rfl _).symm.trans eq_111
            refine lv_aload_n hx hb dX3_begin_207 rfl (lv_at hl 2 rfl) ?_
            refine t_geti cf_4 hx hb hts hown hK hT h_a (k := 5) rfl fl_X3_36 (fun _ h9 => h9) dX3_begin_208 (fun z_112 ez_112 rz_112 => ?_)
            have w_113 : w = z_112 := i106_2.trans ez_112.symm
            subst w_113
            refine t_iald (n := 3) (i := w) rfl (by decide) hx hb hK hT hq_111 (hT.len hq_111 (by decide)) ⟨by omega, by omega⟩ dX3_begin_211 (fun z_114 ez_114 rz_114 => ?_)
            have ez_114 : z_114 = G.1 q_111 w.toNatClampNeg := ez_114.trans (hF.i hq_111 (by decide) rfl _)
            refine lv_i2l hx hb dX3_begin_212 rfl ?_
            refine lv_topl (fun z_115 ez_115 => ?_)
            have tz_115 : z_115.toInt = z_114.toInt := by rw [ez_115]; exact wide_t z_114
            have az_115 := min_t z_114
            have bz_115 := max_t z_114
            refine lv_lmul hx hb dX3_begin_213 ?_
            refine lv_topl (fun z_116 ez_116 => ?_)
            have tz_116 : z_116.toInt = 1000 * z_115.toInt := mul_t64 ez_116 (show -9223372036854775808 ≤ 1000 * z_115.toInt by omega) (show 1000 * z_115.toInt < 9223372036854775808 by omega)
            refine lv_iload hx hb dX3_begin_214 (lv_at hl 0 rfl) ?_
            refine lv_i2l hx hb dX3_begin_216 rfl ?_
            refine lv_topl (fun z_117 ez_117 => ?_)
            have tz_117 : z_117.toInt = x106_6.toInt := by rw [ez_117]; exact wide_t x106_6
            refine lv_lmul hx hb dX3_begin_217 ?_
            refine lv_topl (fun z_118 ez_118 => ?_)
            refine t_last (n := 601) (i := x106_6) (x := z_118) rfl (by decide) hx hb hK hT hS hq_109 (hT.len hq_109 (by decide)) ⟨by omega, by omega⟩ dX3_begin_218 (fun H locs G_119 eG_119 hT hS => ?_)
            have hF := hF.wL eG_119 hq_109 rfl
            have k_120 : w = G_119.1 a 5 := by rw [eG_119]; exact i106_2
            have k_121 : z_107 = G_119.1 a 7 := by rw [eG_119]; exact ez_107
            refine lv_aload_n hx hb dX3_begin_219 rfl (lv_at hl 2 rfl) ?_
            refine t_getr cf_4 hx hb hts hown hK hT h_a (k := 1) (P := fun q => τ q = 30) rfl (fun _ h9 => h9) fl_X3_15 (fun _ h9 => h9) dX3_begin_220 (fun q_122 eq_122 hq_122 => ?_)
            refine lv_iload hx hb dX3_begin_223 (lv_at hl 0 rfl) ?_
            refine lv_aload_n hx hb dX3_begin_225 rfl (lv_at hl 2 rfl) ?_
            refine t_getr cf_4 hx hb hts hown hK hT h_a (k := 0) (P := fun q => τ q = 30) rfl (fun _ h9 => h9) fl_X3_9 (fun _ h9 => h9) dX3_begin_226 (fun q_123 eq_123 hq_123 => ?_)
            refine lv_iload hx hb dX3_begin_229 (lv_at hl 0 rfl) ?_
            refine t_lald (n := 601) (i := x106_6) rfl (by decide) hx hb hK hT hq_123 (hT.len hq_123 (by decide)) ⟨by omega, by omega⟩ dX3_begin_231 (fun z_124 ez_124 => ?_)
            refine t_last (n := 601) (i := x106_6) (x := z_124) rfl (by decide) hx hb hK hT hS hq_122 (hT.len hq_122 (by decide)) ⟨by omega, by omega⟩ dX3_begin_232 (fun H locs G_125 eG_125 hT hS => ?_)
            have hF := hF.wL eG_125 hq_122 rfl
            have k_126 : w = G_125.1 a 5 := by rw [eG_125]; exact k_120
            have k_127 : z_107 = G_125.1 a 7 := by rw [eG_125]; exact k_121
            refine lv_aload_n hx hb dX3_begin_233 rfl (lv_at hl 2 rfl) ?_
            refine t_getr cf_4 hx hb hts hown hK hT h_a (k := 2) (P := fun q => τ q = 31) rfl (fun _ h9 => h9) fl_X3_18 (fun _ h9 => h9) dX3_begin_234 (fun q_128 eq_128 hq_128 => ?_)
            refine lv_iload hx hb dX3_begin_237 (lv_at hl 0 rfl) ?_
            refine lv_iconst (v := (-1)) hx hb dX3_begin_239 (by decide) ?_
            refine t_iast (n := 601) (i := x106_6) (x := (-1)) rfl (by decide) hx hb hK hT hS hq_128 (hT.len hq_128 (by decide)) ⟨by omega, by omega⟩ trivial dX3_begin_240 (fun H locs G_129 eG_129 hT hS => ?_)
            have hF := hF.wI eG_129 hq_128 rfl
            have k_130 : w = G_129.1 a 5 := by rw [eG_129, wI_ne (Or.inl (tag_ne hq_128 h_a (by decide)))]; exact k_126
            have k_131 : z_107 = G_129.1 a 7 := by rw [eG_129, wI_ne (Or.inl (tag_ne hq_128 h_a (by decide)))]; exact k_127
            refine lv_iload hx hb dX3_begin_241 (lv_at hl 0 rfl) ?_
            refine lv_aload_n hx hb dX3_begin_243 rfl (lv_at hl 2 rfl) ?_
            refine t_geti cf_4 hx hb hts hown hK hT h_a (k := 8) rfl fl_X3_29 (fun _ h9 => h9) dX3_begin_244 (fun z_132 ez_132 rz_132 => ?_)
            have ez_132 : z_132 = G_129.1 a 8 := ez_132
            have rz_132 : 1 ≤ z_132.toInt ∧ z_132.toInt ≤ 50 := rz_132
            refine lv_iadd hx hb dX3_begin_247 ?_
            refine lv_topi (fun z_133 ez_133 => ?_)
            have tz_133 : z_133.toInt = x106_6.toInt + z_132.toInt := add_t ez_133 (show -2147483648 ≤ x106_6.toInt + z_132.toInt by omega) (show x106_6.toInt + z_132.toInt < 2147483648 by omega)
            refine lv_istore (lv' := [(6, .int z_133), (5, .int r_30), (0, .ref a), (1, .ref b), (2, .int v), (3, .int w), (4, .int z)]) hx hb dX3_begin_248 hl (by decide) rfl (fun ls hl => ?_)
            refine lv_goto (tgt := 182) hx hb dX3_begin_250 (by decide) ?_
            exact ih106 (z_133, G_129) _ _ _ (by show (700 - z_133.toInt).toNat < (700 - x106_6.toInt).toNat; omega) ⟨(by show 0 ≤ z_133.toInt; omega), (by show z_133.toInt ≤ 700; omega), (show w = G_129.1 a 5 from by first | exact k_130 | omega), hF, hT, hS, lv_sub hl [0, 1, 2, 3, 4, 5, 6] rfl⟩
        · skip
          have tc_88 : ¬ 600 < z_87.toInt := fun h => c_88 ((fa_lt _ _).mpr h)
          refine lv_aload_n hx hb dX3_begin_126 rfl (lv_at hl 1 rfl) ?_
          refine lv_dup hx hb dX3_begin_127 rfl ?_
          refine t_geti cf_4 hx hb hts hown hK hT h_a (k := 7) rfl fl_X3_49 (fun _ h9 => h9) dX3_begin_128 (fun z_134 ez_134 rz_134 => ?_)
          have w_135 : z_38 = z_134 := ez_38.trans ez_134.symm
          subst w_135
          refine lv_aload_n hx hb dX3_begin_131 rfl (lv_at hl 1 rfl) ?_
          refine t_geti cf_4 hx hb hts hown hK hT h_a (k := 8) rfl fl_X3_29 (fun _ h9 => h9) dX3_begin_132 (fun z_136 ez_136 rz_136 => ?_)
          have w_137 : z_86 = z_136 := ez_86.trans ez_136.symm
          subst w_137
          refine lv_iadd hx hb dX3_begin_135 ?_
          refine lv_topi (fun z_138 ez_138 => ?_)
          have w_139 : z_87 = z_138 := ez_87.trans ez_138.symm
          subst w_139
          refine t_puti (x := z_87) cf_4 hx hb hts hown hK hT hS h_a (k := 7) rfl (show -1 ≤ z_87.toInt ∧ z_87.toInt ≤ 600 from ⟨by omega, by omega⟩) fl_X3_49 (fun _ h9 => h9) rfl rfl rfl dX3_begin_136 (fun H locs G_140 eG_140 hT hS => ?_)
          have hF := hF.wI eG_140 h_a rfl
          have k_141 : w = G_140.1 a 5 := by rw [eG_140, wI_ne (Or.inr (by decide))]; exact i37_0
          have k_143 : z_87 = G_140.1 a 7 := by rw [eG_140, wI_at]
          refine lv_goto (tgt := 102) hx hb dX3_begin_139 (by decide) ?_
          exact ih37 (G_140) _ _ _ (by show (600 - (G_140.1 a 7).toInt).toNat < (600 - (G_37.1 a 7).toInt).toNat; rw [← k_143, ← ez_38]; omega) ⟨(show w = G_140.1 a 5 from by first | exact k_141 | omega), hF, hT, hS, lv_sub hl [0, 1, 2, 3, 4, 5] rfl⟩
    · skip
      have tc_24 : ¬ z_23.toInt ≤ 600 := fun h => c_24 ((fa_le _ _).mpr h)
      exfalso; omega
  · skip
    have er_21 := hr_21_1
    subst er_21
    refine W.eq (g2 := F0 m 62 ls [.int 0]) rfl ?_
    refine lv_if_eq (tgt := 75) hx hb dX3_begin_62 (by decide) (fun _ => ?_) (fun c_144 => absurd (by decide) c_144)
    exact ret_v hx hb hr hlocks ⟨⟨hS.1, hS.2.1⟩, G_14, hF, ⟨rfl, trivial⟩, hT⟩ hS.2.2 (Nat.le_of_ble_eq_true rfl) (Nat.le_of_ble_eq_true rfl) dX3_begin_75
set_option maxHeartbeats 4000000 in
set_option maxRecDepth 100000 in
theorem t_X3_leastFromFirst (l : Launch) (D : va_G) (cy : Nat → ClassId) (base : Nat) (τ : Nat → Nat) (G : Gh) (a : Nat) (h_a : τ a = 4) (b : Nat) (h_b : τ b = 7) (v : Int32) (w : Int32) : MM l yX3_leastFromFirst cX3_leastFromFirst 5 (some .long) 4 0 0 D cy [.ref a, .ref b, .int v, .int w] (PT D cy base τ G) (QT D cy base τ G [4, 30, 31, 1004] (fun v g => ∃ r : Int64, v = some (.long r) ∧ (True))) (RA base) := by
  refine MM.of (by decide) (Nat.le_of_ble_eq_true rfl) ?_
  intro p e s m below meth c C hPT ls hl
  obtain ⟨hx, hb, hr, hml, hown, hts, hlocks, hK, hnm⟩ := C
  obtain ⟨hZ, hT⟩ := hPT
  have hS : va_S (RA base) s.heap s.heap [] := va_S.rf
  have hF : Fr τ [4, 30, 31, 1004] G G := Fr.rf
  have hl : lv_has ls 5 [(0, .ref a), (1, .ref b), (2, .int v), (3, .int w)] := hl
  refine lv_aload_n hx hb dX3_leastFromFirst_0 rfl (lv_at hl 0 rfl) ?_
  refine lv_aload_n hx hb dX3_leastFromFirst_1 rfl (lv_at hl 1 rfl) ?_
  refine lv_iload_n hx hb dX3_leastFromFirst_2 rfl (lv_at hl 2 rfl) ?_
  refine lv_iload_n hx hb dX3_leastFromFirst_3 rfl (lv_at hl 3 rfl) ?_
  refine lv_iconst (v := 0) hx hb dX3_leastFromFirst_4 (by decide) ?_
  refine t_callv (runV (As := [.ref b, .int v, .int w, .int 0]) (rest := []) ⟨hx, hb, hml, hown, hts⟩ (t_X3_begin l D cy base τ G a h_a b h_b v w 0 (by decide)) sV_X3_74 hK (t_recv cf_4 hK hT h_a) ⟨Nat.le_trans hZ hS.1, hT⟩ ⟨Nat.le_of_ble_eq_true rfl, Nat.le_of_ble_eq_true rfl⟩ rfl hl.1 rfl (Nat.le_of_ble_eq_true rfl) dX3_leastFromFirst_5 ⟨Nat.le_of_ble_eq_true rfl, Nat.le_of_ble_eq_true rfl⟩) hS (fun G_1 H locs hF_1 hr_1 hT hS => ?_)
  have hF := hF.tr hF_1 rfl
  refine lv_aload_n hx hb dX3_leastFromFirst_8 rfl (lv_at hl 0 rfl) ?_
  refine t_getr cf_4 hx hb hts hown hK hT h_a (k := 3) (P := fun q => τ q = 7) rfl (fun _ h9 => h9) fl_X3_25 (fun _ h9 => h9) dX3_leastFromFirst_9 (fun q_2 eq_2 hq_2 => ?_)
  refine t_geti cf_7 hx hb hts hown hK hT hq_2 (k := 1) rfl fl_X3_78 (fun _ h9 => h9) dX3_leastFromFirst_12 (fun z_3 ez_3 rz_3 => ?_)
  have ez_3 : z_3 = G_1.1 q_2 1 := ez_3
  have rz_3 : 0 ≤ z_3.toInt ∧ z_3.toInt ≤ 60 := rz_3
  have ez_3 : z_3 = G.1 q_2 1 := ez_3.trans (hF.i hq_2 (by decide) rfl _)
  refine lv_istore (lv' := [(4, .int z_3), (0, .ref a), (1, .ref b), (2, .int v), (3, .int w)]) hx hb dX3_leastFromFirst_15 hl (by decide) rfl (fun ls hl => ?_)
  refine W.loop (σ := Int32 × Gh) (fun w4 H locs ls => 0 ≤ w4.1.toInt ∧ w4.1.toInt ≤ 60 ∧ Fr τ [4, 30, 31, 1004] G w4.2 ∧ TY D cy base τ w4.2 H ∧ va_S (RA base) s.heap H locs ∧ lv_has ls 5 [(4, .int w4.1), (0, .ref a), (1, .ref b), (2, .int v), (3, .int w)]) (fun w4 => w4.1.toInt.toNat) ?_ (z_3, G_1) _ _ _ ⟨(by show 0 ≤ z_3.toInt; omega), (by show z_3.toInt ≤ 60; omega), hF, hT, hS, lv_sub hl [0, 1, 2, 3, 4] rfl⟩
  intro w4 H locs ls hI ih4
  obtain ⟨x4_4, G_4⟩ := w4
  obtain ⟨i4_0, i4_1, hF, hT, hS, hl⟩ := hI
  have i4_0 : 0 ≤ x4_4.toInt := i4_0
  have i4_1 : x4_4.toInt ≤ 60 := i4_1
  have hF : Fr τ [4, 30, 31, 1004] G G_4 := hF
  have hT : TY D cy base τ G_4 H := hT
  have hS : va_S (RA base) s.heap H locs := hS
  have hl : lv_has ls 5 [(4, .int x4_4), (0, .ref a), (1, .ref b), (2, .int v), (3, .int w)] := hl
  refine lv_iload hx hb dX3_leastFromFirst_17 (lv_at hl 0 rfl) ?_
  refine lv_iconst (v := 1) hx hb dX3_leastFromFirst_19 (by decide) ?_
  refine lv_icmp_lt (tgt := 35) hx hb dX3_leastFromFirst_20 (by decide) (fun c_5 => ?_) (fun c_5 => ?_)
  · skip
    have tc_5 : x4_4.toInt < 1 := (fa_lt _ _).mp c_5
    refine lv_aload_n hx hb dX3_leastFromFirst_35 rfl (lv_at hl 1 rfl) ?_
    refine t_getr cf_4 hx hb hts hown hK hT h_a (k := 1) (P := fun q => τ q = 30) rfl (fun _ h9 => h9) fl_X3_15 (fun _ h9 => h9) dX3_leastFromFirst_36 (fun q_6 eq_6 hq_6 => ?_)
    refine lv_iconst (v := 0) hx hb dX3_leastFromFirst_39 (by decide) ?_
    refine t_lald (n := 601) (i := 0) rfl (by decide) hx hb hK hT hq_6 (hT.len hq_6 (by decide)) ⟨by decide, by decide⟩ dX3_leastFromFirst_40 (fun z_7 ez_7 => ?_)
    exact ret_l hx hb hr hlocks ⟨⟨hS.1, hS.2.1⟩, G_4, hF, ⟨_, rfl, trivial⟩, hT⟩ hS.2.2 (Nat.le_of_ble_eq_true rfl) (Nat.le_of_ble_eq_true rfl) dX3_leastFromFirst_41
  · skip
    have tc_5 : ¬ x4_4.toInt < 1 := fun h => c_5 ((fa_lt _ _).mpr h)
    refine lv_aload_n hx hb dX3_leastFromFirst_23 rfl (lv_at hl 1 rfl) ?_
    refine lv_iload hx hb dX3_leastFromFirst_24 (lv_at hl 0 rfl) ?_
    refine t_callv (runV (As := [.int x4_4]) (rest := []) ⟨hx, hb, hml, hown, hts⟩ (t_X3_settle l D cy base τ G_4 a h_a x4_4) sV_X3_81 hK (t_recv cf_4 hK hT h_a) ⟨Nat.le_trans hZ hS.1, hT⟩ ⟨Nat.le_of_ble_eq_true rfl, Nat.le_of_ble_eq_true rfl⟩ rfl hl.1 rfl (Nat.le_of_ble_eq_true rfl) dX3_leastFromFirst_26 ⟨Nat.le_of_ble_eq_true rfl, Nat.le_of_ble_eq_true rfl⟩) hS (fun G_8 H locs hF_8 hr_8 hT hS => ?_)
    have hF := hF.tr hF_8 rfl
    obtain ⟨z_9, ez_9⟩ : ∃ y : Int32, y = x4_4 + (-1) := ⟨_, rfl⟩
    have tz_9 : z_9.toInt = x4_4.toInt + -1 := add_t ez_9 (show -2147483648 ≤ x4_4.toInt + -1 by omega) (show x4_4.toInt + -1 < 2147483648 by omega)
    refine lv_iinc (v := z_9) (lv' := [(4, .int z_9), (0, .ref a), (1, .ref b), (2, .int v), (3, .int w)]) hx hb dX3_leastFromFirst_29 hl (k := 0) rfl (by rw [ez_9]; rfl) (by decide) rfl (fun ls hl => ?_)
    refine lv_goto (tgt := 17) hx hb dX3_leastFromFirst_32 (by decide) ?_
    exact ih4 (z_9, G_8) _ _ _ (by show z_9.toInt.toNat < x4_4.toInt.toNat; omega) ⟨(by show 0 ≤ z_9.toInt; omega), (by show z_9.toInt ≤ 60; omega), hF, hT, hS, lv_sub hl [0, 1, 2, 3, 4] rfl⟩
set_option maxHeartbeats 4000000 in
set_option maxRecDepth 100000 in
theorem t_X3_lastSentInClear (l : Launch) (D : va_G) (cy : Nat → ClassId) (base : Nat) (τ : Nat → Nat) (G : Gh) (a : Nat) (h_a : τ a = 4) (b : Nat) (h_b : τ b = 7) (v : Int32) (w : Int32) : MM l yX3_lastSentInClear cX3_lastSentInClear 4 (some .int) 5 0 0 D cy [.ref a, .ref b, .int v, .int w] (PT D cy base τ G) (QT D cy base τ G [4, 30, 31, 1004] (fun v g => ∃ r : Int32, v = some (.int r) ∧ (True))) (RA base) := by
  refine MM.of (by decide) (Nat.le_of_ble_eq_true rfl) ?_
  intro p e s m below meth c C hPT ls hl
  obtain ⟨hx, hb, hr, hml, hown, hts, hlocks, hK, hnm⟩ := C
  obtain ⟨hZ, hT⟩ := hPT
  have hS : va_S (RA base) s.heap s.heap [] := va_S.rf
  have hF : Fr τ [4, 30, 31, 1004] G G := Fr.rf
  have hl : lv_has ls 4 [(0, .ref a), (1, .ref b), (2, .int v), (3, .int w)] := hl
  refine lv_aload_n hx hb dX3_lastSentInClear_0 rfl (lv_at hl 0 rfl) ?_
  refine lv_aload_n hx hb dX3_lastSentInClear_1 rfl (lv_at hl 1 rfl) ?_
  refine lv_iload_n hx hb dX3_lastSentInClear_2 rfl (lv_at hl 2 rfl) ?_
  refine lv_iload_n hx hb dX3_lastSentInClear_3 rfl (lv_at hl 3 rfl) ?_
  refine t_calll (runV (As := [.ref b, .int v, .int w]) (rest := []) ⟨hx, hb, hml, hown, hts⟩ (t_X3_leastFromFirst l D cy base τ G a h_a b h_b v w) sV_X3_85 hK (t_recv cf_4 hK hT h_a) ⟨Nat.le_trans hZ hS.1, hT⟩ ⟨Nat.le_of_ble_eq_true rfl, Nat.le_of_ble_eq_true rfl⟩ rfl hl.1 rfl (Nat.le_of_ble_eq_true rfl) dX3_lastSentInClear_4 ⟨Nat.le_of_ble_eq_true rfl, Nat.le_of_ble_eq_true rfl⟩) hS (fun r_1 G_1 H locs hF_1 hr_1 hT hS => ?_)
  have hF := hF.tr hF_1 rfl
  refine lv_pop2_2 hx hb dX3_lastSentInClear_7 rfl ?_
  refine lv_aload_n hx hb dX3_lastSentInClear_8 rfl (lv_at hl 0 rfl) ?_
  refine t_getr cf_4 hx hb hts hown hK hT h_a (k := 2) (P := fun q => τ q = 31) rfl (fun _ h9 => h9) fl_X3_18 (fun _ h9 => h9) dX3_lastSentInClear_9 (fun q_2 eq_2 hq_2 => ?_)
  refine lv_iconst (v := 0) hx hb dX3_lastSentInClear_12 (by decide) ?_
  refine t_iald (n := 601) (i := 0) rfl (by decide) hx hb hK hT hq_2 (hT.len hq_2 (by decide)) ⟨by decide, by decide⟩ dX3_lastSentInClear_13 (fun z_3 ez_3 rz_3 => ?_)
  have ez_3 : z_3 = G_1.1 q_2 0 := ez_3
  exact ret_i hx hb hr hlocks ⟨⟨hS.1, hS.2.1⟩, G_1, hF, ⟨_, rfl, trivial⟩, hT⟩ hS.2.2 (Nat.le_of_ble_eq_true rfl) (Nat.le_of_ble_eq_true rfl) dX3_lastSentInClear_14
set_option maxHeartbeats 4000000 in
set_option maxRecDepth 100000 in
theorem t_X3_sentOn (l : Launch) (D : va_G) (cy : Nat → ClassId) (base : Nat) (τ : Nat → Nat) (G : Gh) (a : Nat) (h_a : τ a = 4) (v : Int32) (r_v : 1 ≤ v.toInt ∧ v.toInt ≤ 60) (w : Int32) : MM l yX3_sentOn cX3_sentOn 4 (some .int) 4 0 0 D cy [.ref a, .int v, .int w] (PT D cy base τ G) (QT D cy base τ G [30, 31] (fun v g => ∃ r : Int32, v = some (.int r) ∧ (True))) (RA base) := by
  refine MM.of (by decide) (Nat.le_of_ble_eq_true rfl) ?_
  intro p e s m below meth c C hPT ls hl
  obtain ⟨hx, hb, hr, hml, hown, hts, hlocks, hK, hnm⟩ := C
  obtain ⟨hZ, hT⟩ := hPT
  have hS : va_S (RA base) s.heap s.heap [] := va_S.rf
  have hF : Fr τ [30, 31] G G := Fr.rf
  have hl : lv_has ls 4 [(0, .ref a), (1, .int v), (2, .int w)] := hl
  refine lv_aload_n hx hb dX3_sentOn_0 rfl (lv_at hl 0 rfl) ?_
  refine t_getr cf_4 hx hb hts hown hK hT h_a (k := 3) (P := fun q => τ q = 7) rfl (fun _ h9 => h9) fl_X3_25 (fun _ h9 => h9) dX3_sentOn_1 (fun q_1 eq_1 hq_1 => ?_)
  refine t_geti cf_7 hx hb hts hown hK hT hq_1 (k := 1) rfl fl_X3_78 (fun _ h9 => h9) dX3_sentOn_4 (fun z_2 ez_2 rz_2 => ?_)
  have ez_2 : z_2 = G.1 q_1 1 := ez_2
  have rz_2 : 0 ≤ z_2.toInt ∧ z_2.toInt ≤ 60 := rz_2
  refine lv_istore_n (lv' := [(3, .int z_2), (0, .ref a), (1, .int v), (2, .int w)]) hx hb dX3_sentOn_7 rfl hl (by decide) rfl (fun ls hl => ?_)
  refine W.loop (σ := Int32 × Gh) (fun w3 H locs ls => 0 ≤ w3.1.toInt ∧ w3.1.toInt ≤ 60 ∧ Fr τ [30, 31] G w3.2 ∧ TY D cy base τ w3.2 H ∧ va_S (RA base) s.heap H locs ∧ lv_has ls 4 [(3, .int w3.1), (0, .ref a), (1, .int v), (2, .int w)]) (fun w3 => w3.1.toInt.toNat) ?_ (z_2, G) _ _ _ ⟨(by show 0 ≤ z_2.toInt; omega), (by show z_2.toInt ≤ 60; omega), hF, hT, hS, lv_sub hl [0, 1, 2, 3] rfl⟩
  intro w3 H locs ls hI ih3
  obtain ⟨x3_3, G_3⟩ := w3
  obtain ⟨i3_0, i3_1, hF, hT, hS, hl⟩ := hI
  have i3_0 : 0 ≤ x3_3.toInt := i3_0
  have i3_1 : x3_3.toInt ≤ 60 := i3_1
  have hF : Fr τ [30, 31] G G_3 := hF
  have hT : TY D cy base τ G_3 H := hT
  have hS : va_S (RA base) s.heap H locs := hS
  have hl : lv_has ls 4 [(3, .int x3_3), (0, .ref a), (1, .int v), (2, .int w)] := hl
  refine lv_iload_n hx hb dX3_sentOn_8 rfl (lv_at hl 0 rfl) ?_
  refine lv_iload_n hx hb dX3_sentOn_9 rfl (lv_at hl 2 rfl) ?_
  refine lv_icmp_le (tgt := 24) hx hb dX3_sentOn_10 (by decide) (fun c_4 => ?_) (fun c_4 => ?_)
  · skip
    have tc_4 : x3_3.toInt ≤ v.toInt := (fa_le _ _).mp c_4
    refine lv_aload_n hx hb dX3_sentOn_24 rfl (lv_at hl 1 rfl) ?_
    refine lv_iload_n hx hb dX3_sentOn_25 rfl (lv_at hl 2 rfl) ?_
    refine t_callv (runV (As := [.int v]) (rest := []) ⟨hx, hb, hml, hown, hts⟩ (t_X3_weigh l D cy base τ G_3 a h_a v) sV_X3_89 hK (t_recv cf_4 hK hT h_a) ⟨Nat.le_trans hZ hS.1, hT⟩ ⟨Nat.le_of_ble_eq_true rfl, Nat.le_of_ble_eq_true rfl⟩ rfl hl.1 rfl (Nat.le_of_ble_eq_true rfl) dX3_sentOn_26 ⟨Nat.le_of_ble_eq_true rfl, Nat.le_of_ble_eq_true rfl⟩) hS (fun G_5 H locs hF_5 hr_5 hT hS => ?_)
    have hF := hF.tr hF_5 rfl
    refine lv_aload_n hx hb dX3_sentOn_29 rfl (lv_at hl 1 rfl) ?_
    refine lv_iload_n hx hb dX3_sentOn_30 rfl (lv_at hl 3 rfl) ?_
    refine lv_if_eq (tgt := 41) hx hb dX3_sentOn_31 (by decide) (fun c_6 => ?_) (fun c_6 => ?_)
    · skip
      have tc_6 : w.toInt = 0 := (fa_eq _ _).mp c_6
      refine lv_aload_n hx hb dX3_sentOn_41 rfl (lv_at hl 1 rfl) ?_
      refine t_getr cf_4 hx hb hts hown hK hT h_a (k := 1) (P := fun q => τ q = 30) rfl (fun _ h9 => h9) fl_X3_15 (fun _ h9 => h9) dX3_sentOn_42 (fun q_7 eq_7 hq_7 => ?_)
      have eq_7 := (hF.r h_a (by decide) rfl _).symm.trans eq_7
      refine lv_aload_n hx hb dX3_sentOn_45 rfl (lv_at hl 1 rfl) ?_
      refine t_geti cf_4 hx hb hts hown hK hT h_a (k := 6) rfl fl_X3_45 (fun _ h9 => h9) dX3_sentOn_46 (fun z_8 ez_8 rz_8 => ?_)
      have ez_8 : z_8 = G_5.1 a 6 := ez_8
      have rz_8 : 0 ≤ z_8.toInt ∧ z_8.toInt ≤ 600 := rz_8
      have ez_8 : z_8 = G.1 a 6 := ez_8.trans (hF.i h_a (by decide) rfl _)
      obtain ⟨z_9, ez_9⟩ : ∃ y : Int32, y = G_5.1 a 8 := ⟨_, rfl⟩
      have rz_9 : 1 ≤ z_9.toInt ∧ z_9.toInt ≤ 50 := by rw [ez_9]; exact hT.rgi h_a (by decide) 8
      have ez_9 : z_9 = G.1 a 8 := ez_9.trans (hF.i h_a (by decide) rfl _)
      refine pu_calli (runV (As := [.ref q_7, .int z_8]) (rest := []) ⟨hx, hb, hml, hown, hts⟩ (t_X3_fewestOf l D cy base τ G_5 a h_a q_7 hq_7 z_8 ⟨by omega, by omega⟩ z_9 (ez_9.trans (hF.i h_a (by decide) rfl _).symm) ⟨by omega, by omega⟩) sV_X3_92 hK (t_recv cf_4 hK hT h_a) ⟨Nat.le_trans hZ hS.1, hT⟩ ⟨Nat.le_of_ble_eq_true rfl, Nat.le_of_ble_eq_true rfl⟩ rfl hl.1 rfl (Nat.le_of_ble_eq_true rfl) dX3_sentOn_49 ⟨Nat.le_of_ble_eq_true rfl, Nat.le_of_ble_eq_true rfl⟩) (fun r_10 hr_10 => ?_)
      obtain ⟨hr_10_lo, hr_10_hi, hr_10_p0, hr_10_p1⟩ := hr_10
      have hr_10_lo : 0 ≤ r_10.toInt := hr_10_lo
      have hr_10_hi : r_10.toInt ≤ 9 := hr_10_hi
      have hr_10_p0 : 0 ≤ z_8.toInt + r_10.toInt * z_9.toInt := hr_10_p0
      have hr_10_p1 : z_8.toInt + r_10.toInt * z_9.toInt ≤ 600 := hr_10_p1
      exact ret_i hx hb hr hlocks ⟨⟨hS.1, hS.2.1⟩, G_5, hF, ⟨_, rfl, trivial⟩, hT⟩ hS.2.2 (Nat.le_of_ble_eq_true rfl) (Nat.le_of_ble_eq_true rfl) dX3_sentOn_52
    · skip
      have tc_6 : ¬ w.toInt = 0 := fun h => c_6 ((fa_eq _ _).mpr h)
      refine lv_aload_n hx hb dX3_sentOn_34 rfl (lv_at hl 1 rfl) ?_
      refine t_getr cf_4 hx hb hts hown hK hT h_a (k := 0) (P := fun q => τ q = 30) rfl (fun _ h9 => h9) fl_X3_9 (fun _ h9 => h9) dX3_sentOn_35 (fun q_11 eq_11 hq_11 => ?_)
      have eq_11 := (hF.r h_a (by decide) rfl _).symm.trans eq_11
      refine lv_goto (tgt := 45) hx hb dX3_sentOn_38 (by decide) ?_
      refine lv_aload_n hx hb dX3_sentOn_45 rfl (lv_at hl 1 rfl) ?_
      refine t_geti cf_4 hx hb hts hown hK hT h_a (k := 6) rfl fl_X3_45 (fun _ h9 => h9) dX3_sentOn_46 (fun z_12 ez_12 rz_12 => ?_)
      have ez_12 : z_12 = G_5.1 a 6 := ez_12
      have rz_12 : 0 ≤ z_12.toInt ∧ z_12.toInt ≤ 600 := rz_12
      have ez_12 : z_12 = G.1 a 6 := ez_12.trans (hF.i h_a (by decide) rfl _)
      obtain ⟨z_13, ez_13⟩ : ∃ y : Int32, y = G_5.1 a 8 := ⟨_, rfl⟩
      have rz_13 : 1 ≤ z_13.toInt ∧ z_13.toInt ≤ 50 := by rw [ez_13]; exact hT.rgi h_a (by decide) 8
      have ez_13 : z_13 = G.1 a 8 := ez_13.trans (hF.i h_a (by decide) rfl _)
      refine pu_calli (runV (As := [.ref q_11, .int z_12]) (rest := []) ⟨hx, hb, hml, hown, hts⟩ (t_X3_fewestOf l D cy base τ G_5 a h_a q_11 hq_11 z_12 ⟨by omega, by omega⟩ z_13 (ez_13.trans (hF.i h_a (by decide) rfl _).symm) ⟨by omega, by omega⟩) sV_X3_92 hK (t_recv cf_4 hK hT h_a) ⟨Nat.le_trans hZ hS.1, hT⟩ ⟨Nat.le_of_ble_eq_true rfl, Nat.le_of_ble_eq_true rfl⟩ rfl hl.1 rfl (Nat.le_of_ble_eq_true rfl) dX3_sentOn_49 ⟨Nat.le_of_ble_eq_true rfl, Nat.le_of_ble_eq_true rfl⟩) (fun r_14 hr_14 => ?_)
      obtain ⟨hr_14_lo, hr_14_hi, hr_14_p0, hr_14_p1⟩ := hr_14
      have hr_14_lo : 0 ≤ r_14.toInt := hr_14_lo
      have hr_14_hi : r_14.toInt ≤ 9 := hr_14_hi
      have hr_14_p0 : 0 ≤ z_12.toInt + r_14.toInt * z_13.toInt := hr_14_p0
      have hr_14_p1 : z_12.toInt + r_14.toInt * z_13.toInt ≤ 600 := hr_14_p1
      exact ret_i hx hb hr hlocks ⟨⟨hS.1, hS.2.1⟩, G_5, hF, ⟨_, rfl, trivial⟩, hT⟩ hS.2.2 (Nat.le_of_ble_eq_true rfl) (Nat.le_of_ble_eq_true rfl) dX3_sentOn_52
  · skip
    have tc_4 : ¬ x3_3.toInt ≤ v.toInt := fun h => c_4 ((fa_le _ _).mpr h)
    refine lv_aload_n hx hb dX3_sentOn_13 rfl (lv_at hl 1 rfl) ?_
    refine lv_iload_n hx hb dX3_sentOn_14 rfl (lv_at hl 0 rfl) ?_
    refine t_callv (runV (As := [.int x3_3]) (rest := []) ⟨hx, hb, hml, hown, hts⟩ (t_X3_settle l D cy base τ G_3 a h_a x3_3) sV_X3_81 hK (t_recv cf_4 hK hT h_a) ⟨Nat.le_trans hZ hS.1, hT⟩ ⟨Nat.le_of_ble_eq_true rfl, Nat.le_of_ble_eq_true rfl⟩ rfl hl.1 rfl (Nat.le_of_ble_eq_true rfl) dX3_sentOn_15 ⟨Nat.le_of_ble_eq_true rfl, Nat.le_of_ble_eq_true rfl⟩) hS (fun G_15 H locs hF_15 hr_15 hT hS => ?_)
    have hF := hF.tr hF_15 rfl
    obtain ⟨z_16, ez_16⟩ : ∃ y : Int32, y = x3_3 + (-1) := ⟨_, rfl⟩
    have tz_16 : z_16.toInt = x3_3.toInt + -1 := add_t ez_16 (show -2147483648 ≤ x3_3.toInt + -1 by omega) (show x3_3.toInt + -1 < 2147483648 by omega)
    refine lv_iinc (v := z_16) (lv' := [(3, .int z_16), (0, .ref a), (1, .int v), (2, .int w)]) hx hb dX3_sentOn_18 hl (k := 0) rfl (by rw [ez_16]; rfl) (by decide) rfl (fun ls hl => ?_)
    refine lv_goto (tgt := 8) hx hb dX3_sentOn_21 (by decide) ?_
    exact ih3 (z_16, G_15) _ _ _ (by show z_16.toInt.toNat < x3_3.toInt.toNat; omega) ⟨(by show 0 ≤ z_16.toInt; omega), (by show z_16.toInt ≤ 60; omega), hF, hT, hS, lv_sub hl [0, 1, 2, 3] rfl⟩
