theorem dX10_signs_0 : decode cX10_signs 0 = .ok (.aload_n 0, 1) := by decide +kernel
theorem dX10_signs_1 : decode cX10_signs 1 = .ok (.iconst 0, 1) := by decide +kernel
theorem dX10_signs_2 : decode cX10_signs 2 = .ok (.putfield 111, 3) := by decide +kernel
theorem dX10_signs_5 : decode cX10_signs 5 = .ok (.aload_n 0, 1) := by decide +kernel
theorem dX10_signs_6 : decode cX10_signs 6 = .ok (.iload_n 1, 1) := by decide +kernel
theorem dX10_signs_7 : decode cX10_signs 7 = .ok (.iload_n 2, 1) := by decide +kernel
theorem dX10_signs_8 : decode cX10_signs 8 = .ok (.iconst 0, 1) := by decide +kernel
theorem dX10_signs_9 : decode cX10_signs 9 = .ok (.invokevirtual 375, 3) := by decide +kernel
theorem dX10_signs_12 : decode cX10_signs 12 = .ok (.ifCond .ne 7, 3) := by decide +kernel
theorem dX10_signs_19 : decode cX10_signs 19 = .ok (.aload_n 0, 1) := by decide +kernel
theorem dX10_signs_20 : decode cX10_signs 20 = .ok (.iload_n 1, 1) := by decide +kernel
theorem dX10_signs_21 : decode cX10_signs 21 = .ok (.invokevirtual 302, 3) := by decide +kernel
theorem dX10_signs_24 : decode cX10_signs 24 = .ok (.lconst 0, 1) := by decide +kernel
theorem dX10_signs_25 : decode cX10_signs 25 = .ok (.lstore_n 3, 1) := by decide +kernel
theorem dX10_signs_26 : decode cX10_signs 26 = .ok (.iconst 0, 1) := by decide +kernel
theorem dX10_signs_27 : decode cX10_signs 27 = .ok (.istore 5, 2) := by decide +kernel
theorem dX10_signs_29 : decode cX10_signs 29 = .ok (.iload 5, 2) := by decide +kernel
theorem dX10_signs_31 : decode cX10_signs 31 = .ok (.sipush 999, 3) := by decide +kernel
theorem dX10_signs_34 : decode cX10_signs 34 = .ok (.if_icmp .gt 74, 3) := by decide +kernel
theorem dX10_signs_108 : decode cX10_signs 108 = .ok (.lload_n 3, 1) := by decide +kernel
theorem dX10_signs_109 : decode cX10_signs 109 = .ok (.aload_n 0, 1) := by decide +kernel
theorem dX10_signs_110 : decode cX10_signs 110 = .ok (.iload_n 1, 1) := by decide +kernel
theorem dX10_signs_111 : decode cX10_signs 111 = .ok (.iload_n 2, 1) := by decide +kernel
theorem dX10_signs_112 : decode cX10_signs 112 = .ok (.invokevirtual 410, 3) := by decide +kernel
theorem dX10_signs_115 : decode cX10_signs 115 = .ok (.lsub, 1) := by decide +kernel
theorem dX10_signs_116 : decode cX10_signs 116 = .ok (.lreturn, 1) := by decide +kernel
theorem dX10_signs_37 : decode cX10_signs 37 = .ok (.aload_n 0, 1) := by decide +kernel
theorem dX10_signs_38 : decode cX10_signs 38 = .ok (.iload_n 1, 1) := by decide +kernel
theorem dX10_signs_39 : decode cX10_signs 39 = .ok (.iload_n 2, 1) := by decide +kernel
theorem dX10_signs_40 : decode cX10_signs 40 = .ok (.iload 5, 2) := by decide +kernel
theorem dX10_signs_42 : decode cX10_signs 42 = .ok (.invokevirtual 378, 3) := by decide +kernel
theorem dX10_signs_45 : decode cX10_signs 45 = .ok (.ldc2_w 345, 3) := by decide +kernel
theorem dX10_signs_48 : decode cX10_signs 48 = .ok (.ldiv, 1) := by decide +kernel
theorem dX10_signs_49 : decode cX10_signs 49 = .ok (.ldc2_w 343, 3) := by decide +kernel
theorem dX10_signs_52 : decode cX10_signs 52 = .ok (.aload_n 0, 1) := by decide +kernel
theorem dX10_signs_53 : decode cX10_signs 53 = .ok (.getfield 55, 3) := by decide +kernel
theorem dX10_signs_56 : decode cX10_signs 56 = .ok (.iconst 2, 1) := by decide +kernel
theorem dX10_signs_57 : decode cX10_signs 57 = .ok (.iaload, 1) := by decide +kernel
theorem dX10_signs_58 : decode cX10_signs 58 = .ok (.i2l, 1) := by decide +kernel
theorem dX10_signs_59 : decode cX10_signs 59 = .ok (.lmul, 1) := by decide +kernel
theorem dX10_signs_60 : decode cX10_signs 60 = .ok (.iload 5, 2) := by decide +kernel
theorem dX10_signs_62 : decode cX10_signs 62 = .ok (.aload_n 0, 1) := by decide +kernel
theorem dX10_signs_63 : decode cX10_signs 63 = .ok (.getfield 55, 3) := by decide +kernel
theorem dX10_signs_66 : decode cX10_signs 66 = .ok (.iconst 1, 1) := by decide +kernel
theorem dX10_signs_67 : decode cX10_signs 67 = .ok (.iaload, 1) := by decide +kernel
theorem dX10_signs_68 : decode cX10_signs 68 = .ok (.iadd, 1) := by decide +kernel
theorem dX10_signs_69 : decode cX10_signs 69 = .ok (.iconst 1, 1) := by decide +kernel
theorem dX10_signs_70 : decode cX10_signs 70 = .ok (.isub, 1) := by decide +kernel
theorem dX10_signs_71 : decode cX10_signs 71 = .ok (.aload_n 0, 1) := by decide +kernel
theorem dX10_signs_72 : decode cX10_signs 72 = .ok (.getfield 55, 3) := by decide +kernel
theorem dX10_signs_75 : decode cX10_signs 75 = .ok (.iconst 1, 1) := by decide +kernel
theorem dX10_signs_76 : decode cX10_signs 76 = .ok (.iaload, 1) := by decide +kernel
theorem dX10_signs_77 : decode cX10_signs 77 = .ok (.idiv, 1) := by decide +kernel
theorem dX10_signs_78 : decode cX10_signs 78 = .ok (.i2l, 1) := by decide +kernel
theorem dX10_signs_79 : decode cX10_signs 79 = .ok (.lmul, 1) := by decide +kernel
theorem dX10_signs_80 : decode cX10_signs 80 = .ok (.ladd, 1) := by decide +kernel
theorem dX10_signs_81 : decode cX10_signs 81 = .ok (.lstore 6, 2) := by decide +kernel
theorem dX10_signs_83 : decode cX10_signs 83 = .ok (.iload 5, 2) := by decide +kernel
theorem dX10_signs_85 : decode cX10_signs 85 = .ok (.ifCond .eq 10, 3) := by decide +kernel
theorem dX10_signs_95 : decode cX10_signs 95 = .ok (.lload 6, 2) := by decide +kernel
theorem dX10_signs_97 : decode cX10_signs 97 = .ok (.goto 4, 3) := by decide +kernel
theorem dX10_signs_101 : decode cX10_signs 101 = .ok (.lstore_n 3, 1) := by decide +kernel
theorem dX10_signs_102 : decode cX10_signs 102 = .ok (.iinc 5 1, 3) := by decide +kernel
theorem dX10_signs_105 : decode cX10_signs 105 = .ok (.goto (-76), 3) := by decide +kernel
theorem dX10_signs_88 : decode cX10_signs 88 = .ok (.lload 6, 2) := by decide +kernel
theorem dX10_signs_90 : decode cX10_signs 90 = .ok (.lload_n 3, 1) := by decide +kernel
theorem dX10_signs_91 : decode cX10_signs 91 = .ok (.lcmp, 1) := by decide +kernel
theorem dX10_signs_92 : decode cX10_signs 92 = .ok (.ifCond .ge 8, 3) := by decide +kernel
theorem dX10_signs_100 : decode cX10_signs 100 = .ok (.lload_n 3, 1) := by decide +kernel
theorem dX10_signs_15 : decode cX10_signs 15 = .ok (.ldc2_w 381, 3) := by decide +kernel
theorem dX10_signs_18 : decode cX10_signs 18 = .ok (.lreturn, 1) := by decide +kernel
theorem dX10_packs_0 : decode cX10_packs 0 = .ok (.aload_n 0, 1) := by decide +kernel
theorem dX10_packs_1 : decode cX10_packs 1 = .ok (.iload_n 1, 1) := by decide +kernel
theorem dX10_packs_2 : decode cX10_packs 2 = .ok (.invokevirtual 302, 3) := by decide +kernel
theorem dX10_packs_5 : decode cX10_packs 5 = .ok (.aload_n 0, 1) := by decide +kernel
theorem dX10_packs_6 : decode cX10_packs 6 = .ok (.getfield 46, 3) := by decide +kernel
theorem dX10_packs_9 : decode cX10_packs 9 = .ok (.iconst 5, 1) := by decide +kernel
theorem dX10_packs_10 : decode cX10_packs 10 = .ok (.iload_n 1, 1) := by decide +kernel
theorem dX10_packs_11 : decode cX10_packs 11 = .ok (.imul, 1) := by decide +kernel
theorem dX10_packs_12 : decode cX10_packs 12 = .ok (.iconst 1, 1) := by decide +kernel
theorem dX10_packs_13 : decode cX10_packs 13 = .ok (.iadd, 1) := by decide +kernel
theorem dX10_packs_14 : decode cX10_packs 14 = .ok (.iaload, 1) := by decide +kernel
theorem dX10_packs_15 : decode cX10_packs 15 = .ok (.istore_n 2, 1) := by decide +kernel
theorem dX10_packs_16 : decode cX10_packs 16 = .ok (.iconst 0, 1) := by decide +kernel
theorem dX10_packs_17 : decode cX10_packs 17 = .ok (.istore_n 3, 1) := by decide +kernel
theorem dX10_packs_18 : decode cX10_packs 18 = .ok (.iload_n 3, 1) := by decide +kernel
theorem dX10_packs_19 : decode cX10_packs 19 = .ok (.aload_n 0, 1) := by decide +kernel
theorem dX10_packs_20 : decode cX10_packs 20 = .ok (.getfield 37, 3) := by decide +kernel
theorem dX10_packs_23 : decode cX10_packs 23 = .ok (.iconst 0, 1) := by decide +kernel
theorem dX10_packs_24 : decode cX10_packs 24 = .ok (.iaload, 1) := by decide +kernel
theorem dX10_packs_25 : decode cX10_packs 25 = .ok (.if_icmp .ge 47, 3) := by decide +kernel
theorem dX10_packs_72 : decode cX10_packs 72 = .ok (.iconst 0, 1) := by decide +kernel
theorem dX10_packs_73 : decode cX10_packs 73 = .ok (.istore_n 3, 1) := by decide +kernel
theorem dX10_packs_74 : decode cX10_packs 74 = .ok (.iload_n 3, 1) := by decide +kernel
theorem dX10_packs_75 : decode cX10_packs 75 = .ok (.iload_n 2, 1) := by decide +kernel
theorem dX10_packs_76 : decode cX10_packs 76 = .ok (.if_icmp .gt 27, 3) := by decide +kernel
theorem dX10_packs_103 : decode cX10_packs 103 = .ok (.aload_n 0, 1) := by decide +kernel
theorem dX10_packs_104 : decode cX10_packs 104 = .ok (.getfield 37, 3) := by decide +kernel
theorem dX10_packs_107 : decode cX10_packs 107 = .ok (.iconst 0, 1) := by decide +kernel
theorem dX10_packs_108 : decode cX10_packs 108 = .ok (.iaload, 1) := by decide +kernel
theorem dX10_packs_109 : decode cX10_packs 109 = .ok (.iconst 1, 1) := by decide +kernel
theorem dX10_packs_110 : decode cX10_packs 110 = .ok (.isub, 1) := by decide +kernel
theorem dX10_packs_111 : decode cX10_packs 111 = .ok (.istore_n 3, 1) := by decide +kernel
theorem dX10_packs_112 : decode cX10_packs 112 = .ok (.iload_n 3, 1) := by decide +kernel
theorem dX10_packs_113 : decode cX10_packs 113 = .ok (.ifCond .lt 134, 3) := by decide +kernel
theorem dX10_packs_247 : decode cX10_packs 247 = .ok (.return_, 1) := by decide +kernel
theorem dX10_packs_116 : decode cX10_packs 116 = .ok (.iconst 0, 1) := by decide +kernel
theorem dX10_packs_117 : decode cX10_packs 117 = .ok (.istore 4, 2) := by decide +kernel
theorem dX10_packs_119 : decode cX10_packs 119 = .ok (.iload 4, 2) := by decide +kernel
theorem dX10_packs_121 : decode cX10_packs 121 = .ok (.iload_n 2, 1) := by decide +kernel
theorem dX10_packs_122 : decode cX10_packs 122 = .ok (.if_icmp .gt 119, 3) := by decide +kernel
theorem dX10_packs_241 : decode cX10_packs 241 = .ok (.iinc 3 (-1), 3) := by decide +kernel
theorem dX10_packs_244 : decode cX10_packs 244 = .ok (.goto (-132), 3) := by decide +kernel
theorem dX10_packs_125 : decode cX10_packs 125 = .ok (.aload_n 0, 1) := by decide +kernel
theorem dX10_packs_126 : decode cX10_packs 126 = .ok (.getfield 92, 3) := by decide +kernel
theorem dX10_packs_129 : decode cX10_packs 129 = .ok (.sipush 1000, 3) := by decide +kernel
theorem dX10_packs_132 : decode cX10_packs 132 = .ok (.iload_n 3, 1) := by decide +kernel
theorem dX10_packs_133 : decode cX10_packs 133 = .ok (.imul, 1) := by decide +kernel
theorem dX10_packs_134 : decode cX10_packs 134 = .ok (.laload, 1) := by decide +kernel
theorem dX10_packs_135 : decode cX10_packs 135 = .ok (.aload_n 0, 1) := by decide +kernel
theorem dX10_packs_136 : decode cX10_packs 136 = .ok (.getfield 95, 3) := by decide +kernel
theorem dX10_packs_139 : decode cX10_packs 139 = .ok (.sipush 1000, 3) := by decide +kernel
theorem dX10_packs_142 : decode cX10_packs 142 = .ok (.iload_n 3, 1) := by decide +kernel
theorem dX10_packs_143 : decode cX10_packs 143 = .ok (.iconst 1, 1) := by decide +kernel
theorem dX10_packs_144 : decode cX10_packs 144 = .ok (.iadd, 1) := by decide +kernel
theorem dX10_packs_145 : decode cX10_packs 145 = .ok (.imul, 1) := by decide +kernel
theorem dX10_packs_146 : decode cX10_packs 146 = .ok (.iload 4, 2) := by decide +kernel
theorem dX10_packs_148 : decode cX10_packs 148 = .ok (.iadd, 1) := by decide +kernel
theorem dX10_packs_149 : decode cX10_packs 149 = .ok (.laload, 1) := by decide +kernel
theorem dX10_packs_150 : decode cX10_packs 150 = .ok (.ladd, 1) := by decide +kernel
theorem dX10_packs_151 : decode cX10_packs 151 = .ok (.lstore 5, 2) := by decide +kernel
theorem dX10_packs_153 : decode cX10_packs 153 = .ok (.iconst 1, 1) := by decide +kernel
theorem dX10_packs_154 : decode cX10_packs 154 = .ok (.istore 7, 2) := by decide +kernel
theorem dX10_packs_156 : decode cX10_packs 156 = .ok (.iload 7, 2) := by decide +kernel
theorem dX10_packs_158 : decode cX10_packs 158 = .ok (.iload 4, 2) := by decide +kernel
theorem dX10_packs_160 : decode cX10_packs 160 = .ok (.if_icmp .gt 60, 3) := by decide +kernel
theorem dX10_packs_220 : decode cX10_packs 220 = .ok (.aload_n 0, 1) := by decide +kernel
theorem dX10_packs_221 : decode cX10_packs 221 = .ok (.getfield 95, 3) := by decide +kernel
theorem dX10_packs_224 : decode cX10_packs 224 = .ok (.sipush 1000, 3) := by decide +kernel
theorem dX10_packs_227 : decode cX10_packs 227 = .ok (.iload_n 3, 1) := by decide +kernel
theorem dX10_packs_228 : decode cX10_packs 228 = .ok (.imul, 1) := by decide +kernel
theorem dX10_packs_229 : decode cX10_packs 229 = .ok (.iload 4, 2) := by decide +kernel
theorem dX10_packs_231 : decode cX10_packs 231 = .ok (.iadd, 1) := by decide +kernel
theorem dX10_packs_232 : decode cX10_packs 232 = .ok (.lload 5, 2) := by decide +kernel
theorem dX10_packs_234 : decode cX10_packs 234 = .ok (.lastore, 1) := by decide +kernel
theorem dX10_packs_235 : decode cX10_packs 235 = .ok (.iinc 4 1, 3) := by decide +kernel
theorem dX10_packs_238 : decode cX10_packs 238 = .ok (.goto (-119), 3) := by decide +kernel
theorem dX10_packs_163 : decode cX10_packs 163 = .ok (.aload_n 0, 1) := by decide +kernel
theorem dX10_packs_164 : decode cX10_packs 164 = .ok (.getfield 92, 3) := by decide +kernel
theorem dX10_packs_167 : decode cX10_packs 167 = .ok (.sipush 1000, 3) := by decide +kernel
theorem dX10_packs_170 : decode cX10_packs 170 = .ok (.iload_n 3, 1) := by decide +kernel
theorem dX10_packs_171 : decode cX10_packs 171 = .ok (.imul, 1) := by decide +kernel
theorem dX10_packs_172 : decode cX10_packs 172 = .ok (.iload 7, 2) := by decide +kernel
theorem dX10_packs_174 : decode cX10_packs 174 = .ok (.iadd, 1) := by decide +kernel
theorem dX10_packs_175 : decode cX10_packs 175 = .ok (.laload, 1) := by decide +kernel
theorem dX10_packs_176 : decode cX10_packs 176 = .ok (.aload_n 0, 1) := by decide +kernel
theorem dX10_packs_177 : decode cX10_packs 177 = .ok (.getfield 95, 3) := by decide +kernel
theorem dX10_packs_180 : decode cX10_packs 180 = .ok (.sipush 1000, 3) := by decide +kernel
theorem dX10_packs_183 : decode cX10_packs 183 = .ok (.iload_n 3, 1) := by decide +kernel
theorem dX10_packs_184 : decode cX10_packs 184 = .ok (.iconst 1, 1) := by decide +kernel
theorem dX10_packs_185 : decode cX10_packs 185 = .ok (.iadd, 1) := by decide +kernel
theorem dX10_packs_186 : decode cX10_packs 186 = .ok (.imul, 1) := by decide +kernel
theorem dX10_packs_187 : decode cX10_packs 187 = .ok (.iload 4, 2) := by decide +kernel
theorem dX10_packs_189 : decode cX10_packs 189 = .ok (.iadd, 1) := by decide +kernel
theorem dX10_packs_190 : decode cX10_packs 190 = .ok (.iload 7, 2) := by decide +kernel
theorem dX10_packs_192 : decode cX10_packs 192 = .ok (.isub, 1) := by decide +kernel
theorem dX10_packs_193 : decode cX10_packs 193 = .ok (.laload, 1) := by decide +kernel
theorem dX10_packs_194 : decode cX10_packs 194 = .ok (.ladd, 1) := by decide +kernel
theorem dX10_packs_195 : decode cX10_packs 195 = .ok (.lstore 8, 2) := by decide +kernel
theorem dX10_packs_197 : decode cX10_packs 197 = .ok (.lload 8, 2) := by decide +kernel
theorem dX10_packs_199 : decode cX10_packs 199 = .ok (.lload 5, 2) := by decide +kernel
theorem dX10_packs_201 : decode cX10_packs 201 = .ok (.lcmp, 1) := by decide +kernel
theorem dX10_packs_202 : decode cX10_packs 202 = .ok (.ifCond .ge 8, 3) := by decide +kernel
theorem dX10_packs_210 : decode cX10_packs 210 = .ok (.lload 5, 2) := by decide +kernel
theorem dX10_packs_212 : decode cX10_packs 212 = .ok (.lstore 5, 2) := by decide +kernel
theorem dX10_packs_214 : decode cX10_packs 214 = .ok (.iinc 7 1, 3) := by decide +kernel
theorem dX10_packs_217 : decode cX10_packs 217 = .ok (.goto (-61), 3) := by decide +kernel
theorem dX10_packs_205 : decode cX10_packs 205 = .ok (.lload 8, 2) := by decide +kernel
theorem dX10_packs_207 : decode cX10_packs 207 = .ok (.goto 5, 3) := by decide +kernel
theorem dX10_packs_79 : decode cX10_packs 79 = .ok (.aload_n 0, 1) := by decide +kernel
theorem dX10_packs_80 : decode cX10_packs 80 = .ok (.getfield 95, 3) := by decide +kernel
theorem dX10_packs_83 : decode cX10_packs 83 = .ok (.sipush 1000, 3) := by decide +kernel
theorem dX10_packs_86 : decode cX10_packs 86 = .ok (.aload_n 0, 1) := by decide +kernel
theorem dX10_packs_87 : decode cX10_packs 87 = .ok (.getfield 37, 3) := by decide +kernel
theorem dX10_packs_90 : decode cX10_packs 90 = .ok (.iconst 0, 1) := by decide +kernel
theorem dX10_packs_91 : decode cX10_packs 91 = .ok (.iaload, 1) := by decide +kernel
theorem dX10_packs_92 : decode cX10_packs 92 = .ok (.imul, 1) := by decide +kernel
theorem dX10_packs_93 : decode cX10_packs 93 = .ok (.iload_n 3, 1) := by decide +kernel
theorem dX10_packs_94 : decode cX10_packs 94 = .ok (.iadd, 1) := by decide +kernel
theorem dX10_packs_95 : decode cX10_packs 95 = .ok (.lconst 0, 1) := by decide +kernel
theorem dX10_packs_96 : decode cX10_packs 96 = .ok (.lastore, 1) := by decide +kernel
theorem dX10_packs_97 : decode cX10_packs 97 = .ok (.iinc 3 1, 3) := by decide +kernel
theorem dX10_packs_100 : decode cX10_packs 100 = .ok (.goto (-26), 3) := by decide +kernel
theorem dX10_packs_28 : decode cX10_packs 28 = .ok (.iconst 0, 1) := by decide +kernel
theorem dX10_packs_29 : decode cX10_packs 29 = .ok (.istore 4, 2) := by decide +kernel
theorem dX10_packs_31 : decode cX10_packs 31 = .ok (.iload 4, 2) := by decide +kernel
theorem dX10_packs_33 : decode cX10_packs 33 = .ok (.sipush 999, 3) := by decide +kernel
theorem dX10_packs_36 : decode cX10_packs 36 = .ok (.if_icmp .gt 30, 3) := by decide +kernel
theorem dX10_packs_66 : decode cX10_packs 66 = .ok (.iinc 3 1, 3) := by decide +kernel
theorem dX10_packs_69 : decode cX10_packs 69 = .ok (.goto (-51), 3) := by decide +kernel
theorem dX10_packs_39 : decode cX10_packs 39 = .ok (.aload_n 0, 1) := by decide +kernel
theorem dX10_packs_40 : decode cX10_packs 40 = .ok (.getfield 92, 3) := by decide +kernel
theorem dX10_packs_43 : decode cX10_packs 43 = .ok (.sipush 1000, 3) := by decide +kernel
theorem dX10_packs_46 : decode cX10_packs 46 = .ok (.iload_n 3, 1) := by decide +kernel
theorem dX10_packs_47 : decode cX10_packs 47 = .ok (.imul, 1) := by decide +kernel
theorem dX10_packs_48 : decode cX10_packs 48 = .ok (.iload 4, 2) := by decide +kernel
theorem dX10_packs_50 : decode cX10_packs 50 = .ok (.iadd, 1) := by decide +kernel
theorem dX10_packs_51 : decode cX10_packs 51 = .ok (.aload_n 0, 1) := by decide +kernel
theorem dX10_packs_52 : decode cX10_packs 52 = .ok (.iload_n 1, 1) := by decide +kernel
theorem dX10_packs_53 : decode cX10_packs 53 = .ok (.iload_n 3, 1) := by decide +kernel
theorem dX10_packs_54 : decode cX10_packs 54 = .ok (.iload 4, 2) := by decide +kernel
theorem dX10_packs_56 : decode cX10_packs 56 = .ok (.invokevirtual 378, 3) := by decide +kernel
theorem dX10_packs_59 : decode cX10_packs 59 = .ok (.lastore, 1) := by decide +kernel
theorem dX10_packs_60 : decode cX10_packs 60 = .ok (.iinc 4 1, 3) := by decide +kernel
theorem dX10_packs_63 : decode cX10_packs 63 = .ok (.goto (-32), 3) := by decide +kernel
theorem dX10_pack_0 : decode cX10_pack 0 = .ok (.aload_n 0, 1) := by decide +kernel
theorem dX10_pack_1 : decode cX10_pack 1 = .ok (.iconst 0, 1) := by decide +kernel
theorem dX10_pack_2 : decode cX10_pack 2 = .ok (.putfield 111, 3) := by decide +kernel
theorem dX10_pack_5 : decode cX10_pack 5 = .ok (.aload_n 0, 1) := by decide +kernel
theorem dX10_pack_6 : decode cX10_pack 6 = .ok (.iload_n 1, 1) := by decide +kernel
theorem dX10_pack_7 : decode cX10_pack 7 = .ok (.iload_n 2, 1) := by decide +kernel
theorem dX10_pack_8 : decode cX10_pack 8 = .ok (.iconst 0, 1) := by decide +kernel
theorem dX10_pack_9 : decode cX10_pack 9 = .ok (.invokevirtual 375, 3) := by decide +kernel
theorem dX10_pack_12 : decode cX10_pack 12 = .ok (.ifCond .ne 6, 3) := by decide +kernel
theorem dX10_pack_18 : decode cX10_pack 18 = .ok (.aload_n 0, 1) := by decide +kernel
theorem dX10_pack_19 : decode cX10_pack 19 = .ok (.iload_n 1, 1) := by decide +kernel
theorem dX10_pack_20 : decode cX10_pack 20 = .ok (.invokevirtual 389, 3) := by decide +kernel
theorem dX10_pack_23 : decode cX10_pack 23 = .ok (.aload_n 0, 1) := by decide +kernel
theorem dX10_pack_24 : decode cX10_pack 24 = .ok (.getfield 46, 3) := by decide +kernel
theorem dX10_pack_27 : decode cX10_pack 27 = .ok (.iconst 5, 1) := by decide +kernel
theorem dX10_pack_28 : decode cX10_pack 28 = .ok (.iload_n 1, 1) := by decide +kernel
theorem dX10_pack_29 : decode cX10_pack 29 = .ok (.imul, 1) := by decide +kernel
theorem dX10_pack_30 : decode cX10_pack 30 = .ok (.iconst 1, 1) := by decide +kernel
theorem dX10_pack_31 : decode cX10_pack 31 = .ok (.iadd, 1) := by decide +kernel
theorem dX10_pack_32 : decode cX10_pack 32 = .ok (.iaload, 1) := by decide +kernel
theorem dX10_pack_33 : decode cX10_pack 33 = .ok (.istore_n 3, 1) := by decide +kernel
theorem dX10_pack_34 : decode cX10_pack 34 = .ok (.iconst 0, 1) := by decide +kernel
theorem dX10_pack_35 : decode cX10_pack 35 = .ok (.istore 4, 2) := by decide +kernel
theorem dX10_pack_37 : decode cX10_pack 37 = .ok (.iconst 0, 1) := by decide +kernel
theorem dX10_pack_38 : decode cX10_pack 38 = .ok (.istore 5, 2) := by decide +kernel
theorem dX10_pack_40 : decode cX10_pack 40 = .ok (.iload 5, 2) := by decide +kernel
theorem dX10_pack_42 : decode cX10_pack 42 = .ok (.iload_n 2, 1) := by decide +kernel
theorem dX10_pack_43 : decode cX10_pack 43 = .ok (.if_icmp .gt 73, 3) := by decide +kernel
theorem dX10_pack_116 : decode cX10_pack 116 = .ok (.iload 4, 2) := by decide +kernel
theorem dX10_pack_118 : decode cX10_pack 118 = .ok (.ireturn, 1) := by decide +kernel
theorem dX10_pack_46 : decode cX10_pack 46 = .ok (.iconst 0, 1) := by decide +kernel
theorem dX10_pack_47 : decode cX10_pack 47 = .ok (.istore 4, 2) := by decide +kernel
theorem dX10_pack_49 : decode cX10_pack 49 = .ok (.aload_n 0, 1) := by decide +kernel
theorem dX10_pack_50 : decode cX10_pack 50 = .ok (.getfield 92, 3) := by decide +kernel
theorem dX10_pack_53 : decode cX10_pack 53 = .ok (.sipush 1000, 3) := by decide +kernel
theorem dX10_pack_56 : decode cX10_pack 56 = .ok (.iload 5, 2) := by decide +kernel
theorem dX10_pack_58 : decode cX10_pack 58 = .ok (.imul, 1) := by decide +kernel
theorem dX10_pack_59 : decode cX10_pack 59 = .ok (.iload 4, 2) := by decide +kernel
theorem dX10_pack_61 : decode cX10_pack 61 = .ok (.iadd, 1) := by decide +kernel
theorem dX10_pack_62 : decode cX10_pack 62 = .ok (.laload, 1) := by decide +kernel
theorem dX10_pack_63 : decode cX10_pack 63 = .ok (.aload_n 0, 1) := by decide +kernel
theorem dX10_pack_64 : decode cX10_pack 64 = .ok (.getfield 95, 3) := by decide +kernel
theorem dX10_pack_67 : decode cX10_pack 67 = .ok (.sipush 1000, 3) := by decide +kernel
theorem dX10_pack_70 : decode cX10_pack 70 = .ok (.iload 5, 2) := by decide +kernel
theorem dX10_pack_72 : decode cX10_pack 72 = .ok (.iconst 1, 1) := by decide +kernel
theorem dX10_pack_73 : decode cX10_pack 73 = .ok (.iadd, 1) := by decide +kernel
theorem dX10_pack_74 : decode cX10_pack 74 = .ok (.imul, 1) := by decide +kernel
theorem dX10_pack_75 : decode cX10_pack 75 = .ok (.iload_n 3, 1) := by decide +kernel
theorem dX10_pack_76 : decode cX10_pack 76 = .ok (.iadd, 1) := by decide +kernel
theorem dX10_pack_77 : decode cX10_pack 77 = .ok (.iload 4, 2) := by decide +kernel
theorem dX10_pack_79 : decode cX10_pack 79 = .ok (.isub, 1) := by decide +kernel
theorem dX10_pack_80 : decode cX10_pack 80 = .ok (.laload, 1) := by decide +kernel
theorem dX10_pack_81 : decode cX10_pack 81 = .ok (.ladd, 1) := by decide +kernel
theorem dX10_pack_82 : decode cX10_pack 82 = .ok (.aload_n 0, 1) := by decide +kernel
theorem dX10_pack_83 : decode cX10_pack 83 = .ok (.getfield 95, 3) := by decide +kernel
theorem dX10_pack_86 : decode cX10_pack 86 = .ok (.sipush 1000, 3) := by decide +kernel
theorem dX10_pack_89 : decode cX10_pack 89 = .ok (.iload 5, 2) := by decide +kernel
theorem dX10_pack_91 : decode cX10_pack 91 = .ok (.imul, 1) := by decide +kernel
theorem dX10_pack_92 : decode cX10_pack 92 = .ok (.iload_n 3, 1) := by decide +kernel
theorem dX10_pack_93 : decode cX10_pack 93 = .ok (.iadd, 1) := by decide +kernel
theorem dX10_pack_94 : decode cX10_pack 94 = .ok (.laload, 1) := by decide +kernel
theorem dX10_pack_95 : decode cX10_pack 95 = .ok (.lcmp, 1) := by decide +kernel
theorem dX10_pack_96 : decode cX10_pack 96 = .ok (.ifCond .eq 9, 3) := by decide +kernel
theorem dX10_pack_105 : decode cX10_pack 105 = .ok (.iload_n 3, 1) := by decide +kernel
theorem dX10_pack_106 : decode cX10_pack 106 = .ok (.iload 4, 2) := by decide +kernel
theorem dX10_pack_108 : decode cX10_pack 108 = .ok (.isub, 1) := by decide +kernel
theorem dX10_pack_109 : decode cX10_pack 109 = .ok (.istore_n 3, 1) := by decide +kernel
theorem dX10_pack_110 : decode cX10_pack 110 = .ok (.iinc 5 1, 3) := by decide +kernel
theorem dX10_pack_113 : decode cX10_pack 113 = .ok (.goto (-73), 3) := by decide +kernel
theorem dX10_pack_99 : decode cX10_pack 99 = .ok (.iinc 4 1, 3) := by decide +kernel
theorem dX10_pack_102 : decode cX10_pack 102 = .ok (.goto (-53), 3) := by decide +kernel
theorem dX10_pack_15 : decode cX10_pack 15 = .ok (.bipush (-2), 2) := by decide +kernel
theorem dX10_pack_17 : decode cX10_pack 17 = .ok (.ireturn, 1) := by decide +kernel
theorem dX10_packed_0 : decode cX10_packed 0 = .ok (.aload_n 0, 1) := by decide +kernel
theorem dX10_packed_1 : decode cX10_packed 1 = .ok (.iconst 0, 1) := by decide +kernel
theorem dX10_packed_2 : decode cX10_packed 2 = .ok (.putfield 111, 3) := by decide +kernel
theorem dX10_packed_5 : decode cX10_packed 5 = .ok (.aload_n 0, 1) := by decide +kernel
theorem dX10_packed_6 : decode cX10_packed 6 = .ok (.iload_n 1, 1) := by decide +kernel
theorem dX10_packed_7 : decode cX10_packed 7 = .ok (.invokevirtual 297, 3) := by decide +kernel
theorem dX10_packed_10 : decode cX10_packed 10 = .ok (.ifCond .ne 7, 3) := by decide +kernel
theorem dX10_packed_17 : decode cX10_packed 17 = .ok (.aload_n 0, 1) := by decide +kernel
theorem dX10_packed_18 : decode cX10_packed 18 = .ok (.iload_n 1, 1) := by decide +kernel
theorem dX10_packed_19 : decode cX10_packed 19 = .ok (.invokevirtual 389, 3) := by decide +kernel
theorem dX10_packed_22 : decode cX10_packed 22 = .ok (.aload_n 0, 1) := by decide +kernel
theorem dX10_packed_23 : decode cX10_packed 23 = .ok (.getfield 95, 3) := by decide +kernel
theorem dX10_packed_26 : decode cX10_packed 26 = .ok (.aload_n 0, 1) := by decide +kernel
theorem dX10_packed_27 : decode cX10_packed 27 = .ok (.getfield 46, 3) := by decide +kernel
theorem dX10_packed_30 : decode cX10_packed 30 = .ok (.iconst 5, 1) := by decide +kernel
theorem dX10_packed_31 : decode cX10_packed 31 = .ok (.iload_n 1, 1) := by decide +kernel
theorem dX10_packed_32 : decode cX10_packed 32 = .ok (.imul, 1) := by decide +kernel
theorem dX10_packed_33 : decode cX10_packed 33 = .ok (.iconst 1, 1) := by decide +kernel
theorem dX10_packed_34 : decode cX10_packed 34 = .ok (.iadd, 1) := by decide +kernel
theorem dX10_packed_35 : decode cX10_packed 35 = .ok (.iaload, 1) := by decide +kernel
theorem dX10_packed_36 : decode cX10_packed 36 = .ok (.laload, 1) := by decide +kernel
theorem dX10_packed_37 : decode cX10_packed 37 = .ok (.ldc2_w 345, 3) := by decide +kernel
theorem dX10_packed_40 : decode cX10_packed 40 = .ok (.ldiv, 1) := by decide +kernel
theorem dX10_packed_41 : decode cX10_packed 41 = .ok (.lreturn, 1) := by decide +kernel
theorem dX10_packed_13 : decode cX10_packed 13 = .ok (.ldc2_w 300, 3) := by decide +kernel
theorem dX10_packed_16 : decode cX10_packed 16 = .ok (.lreturn, 1) := by decide +kernel
theorem dX10_gap_0 : decode cX10_gap 0 = .ok (.aload_n 0, 1) := by decide +kernel
theorem dX10_gap_1 : decode cX10_gap 1 = .ok (.iconst 0, 1) := by decide +kernel
theorem dX10_gap_2 : decode cX10_gap 2 = .ok (.putfield 111, 3) := by decide +kernel
theorem dX10_gap_5 : decode cX10_gap 5 = .ok (.aload_n 0, 1) := by decide +kernel
theorem dX10_gap_6 : decode cX10_gap 6 = .ok (.iload_n 1, 1) := by decide +kernel
theorem dX10_gap_7 : decode cX10_gap 7 = .ok (.invokevirtual 297, 3) := by decide +kernel
theorem dX10_gap_10 : decode cX10_gap 10 = .ok (.ifCond .ne 7, 3) := by decide +kernel
theorem dX10_gap_17 : decode cX10_gap 17 = .ok (.aload_n 0, 1) := by decide +kernel
theorem dX10_gap_18 : decode cX10_gap 18 = .ok (.iload_n 1, 1) := by decide +kernel
theorem dX10_gap_19 : decode cX10_gap 19 = .ok (.invokevirtual 389, 3) := by decide +kernel
theorem dX10_gap_22 : decode cX10_gap 22 = .ok (.lconst 0, 1) := by decide +kernel
theorem dX10_gap_23 : decode cX10_gap 23 = .ok (.lstore_n 2, 1) := by decide +kernel
theorem dX10_gap_24 : decode cX10_gap 24 = .ok (.iconst 0, 1) := by decide +kernel
theorem dX10_gap_25 : decode cX10_gap 25 = .ok (.istore 4, 2) := by decide +kernel
theorem dX10_gap_27 : decode cX10_gap 27 = .ok (.iload 4, 2) := by decide +kernel
theorem dX10_gap_29 : decode cX10_gap 29 = .ok (.aload_n 0, 1) := by decide +kernel
theorem dX10_gap_30 : decode cX10_gap 30 = .ok (.getfield 37, 3) := by decide +kernel
theorem dX10_gap_33 : decode cX10_gap 33 = .ok (.iconst 0, 1) := by decide +kernel
theorem dX10_gap_34 : decode cX10_gap 34 = .ok (.iaload, 1) := by decide +kernel
theorem dX10_gap_35 : decode cX10_gap 35 = .ok (.if_icmp .ge 31, 3) := by decide +kernel
theorem dX10_gap_66 : decode cX10_gap 66 = .ok (.aload_n 0, 1) := by decide +kernel
theorem dX10_gap_67 : decode cX10_gap 67 = .ok (.getfield 95, 3) := by decide +kernel
theorem dX10_gap_70 : decode cX10_gap 70 = .ok (.aload_n 0, 1) := by decide +kernel
theorem dX10_gap_71 : decode cX10_gap 71 = .ok (.getfield 46, 3) := by decide +kernel
theorem dX10_gap_74 : decode cX10_gap 74 = .ok (.iconst 5, 1) := by decide +kernel
theorem dX10_gap_75 : decode cX10_gap 75 = .ok (.iload_n 1, 1) := by decide +kernel
theorem dX10_gap_76 : decode cX10_gap 76 = .ok (.imul, 1) := by decide +kernel
theorem dX10_gap_77 : decode cX10_gap 77 = .ok (.iconst 1, 1) := by decide +kernel
theorem dX10_gap_78 : decode cX10_gap 78 = .ok (.iadd, 1) := by decide +kernel
theorem dX10_gap_79 : decode cX10_gap 79 = .ok (.iaload, 1) := by decide +kernel
theorem dX10_gap_80 : decode cX10_gap 80 = .ok (.laload, 1) := by decide +kernel
theorem dX10_gap_81 : decode cX10_gap 81 = .ok (.lload_n 2, 1) := by decide +kernel
theorem dX10_gap_82 : decode cX10_gap 82 = .ok (.lsub, 1) := by decide +kernel
theorem dX10_gap_83 : decode cX10_gap 83 = .ok (.ldc2_w 345, 3) := by decide +kernel
theorem dX10_gap_86 : decode cX10_gap 86 = .ok (.ldiv, 1) := by decide +kernel
theorem dX10_gap_87 : decode cX10_gap 87 = .ok (.lreturn, 1) := by decide +kernel
theorem dX10_gap_38 : decode cX10_gap 38 = .ok (.lload_n 2, 1) := by decide +kernel
theorem dX10_gap_39 : decode cX10_gap 39 = .ok (.aload_n 0, 1) := by decide +kernel
theorem dX10_gap_40 : decode cX10_gap 40 = .ok (.getfield 92, 3) := by decide +kernel
theorem dX10_gap_43 : decode cX10_gap 43 = .ok (.sipush 1000, 3) := by decide +kernel
theorem dX10_gap_46 : decode cX10_gap 46 = .ok (.iload 4, 2) := by decide +kernel
theorem dX10_gap_48 : decode cX10_gap 48 = .ok (.imul, 1) := by decide +kernel
theorem dX10_gap_49 : decode cX10_gap 49 = .ok (.aload_n 0, 1) := by decide +kernel
theorem dX10_gap_50 : decode cX10_gap 50 = .ok (.iload_n 1, 1) := by decide +kernel
theorem dX10_gap_51 : decode cX10_gap 51 = .ok (.iload 4, 2) := by decide +kernel
theorem dX10_gap_53 : decode cX10_gap 53 = .ok (.invokevirtual 383, 3) := by decide +kernel
theorem dX10_gap_56 : decode cX10_gap 56 = .ok (.iadd, 1) := by decide +kernel
theorem dX10_gap_57 : decode cX10_gap 57 = .ok (.laload, 1) := by decide +kernel
theorem dX10_gap_58 : decode cX10_gap 58 = .ok (.ladd, 1) := by decide +kernel
theorem dX10_gap_59 : decode cX10_gap 59 = .ok (.lstore_n 2, 1) := by decide +kernel
theorem dX10_gap_60 : decode cX10_gap 60 = .ok (.iinc 4 1, 3) := by decide +kernel
theorem dX10_gap_63 : decode cX10_gap 63 = .ok (.goto (-36), 3) := by decide +kernel
theorem dX10_gap_13 : decode cX10_gap 13 = .ok (.ldc2_w 300, 3) := by decide +kernel
theorem dX10_gap_16 : decode cX10_gap 16 = .ok (.lreturn, 1) := by decide +kernel
theorem sV_X10_389 : SiteV RX10 389 yX10_packs cX10_packs 10 none 1 := ⟨ml_X10_389, im_X10_packs, se_X10_packs, ini_X10, co_X10_packs, by decide +kernel⟩
set_option maxHeartbeats 4000000 in
set_option maxRecDepth 100000 in
theorem t_X10_isThing2 (l : Launch) (D : va_G) (cy : Nat → ClassId) (base : Nat) (τ : Nat → Nat) (G : Gh) (a : Nat) (h_a : τ a = 11) (v : Int32) (tha : Nat) (h_tha : τ tha = 68) (e_tha : G.2.2.1 a 18 = some tha) (th0 : Int32) (e_th0 : th0 = G.1 tha 0) (r_th0 : 0 ≤ th0.toInt ∧ th0.toInt ≤ 3) : MM l yX10_isThing cX10_isThing 2 (some .boolean) 1 0 0 D cy [.ref a, .int v] (PT D cy base τ G) (PuI (fun r => ((r = 1 ∧ 0 ≤ v.toInt ∧ v.toInt ≤ 2 ∧ v.toInt < th0.toInt) ∨ (r = 0)))) noF := by
  refine MM.of (by decide) (Nat.le_of_ble_eq_true rfl) ?_
  intro p e s m below meth c C hPT ls hl
  obtain ⟨hx, hb, hr, hml, hown, hts, hlocks, hK, hnm⟩ := C
  obtain ⟨hZ, hT⟩ := hPT
  have hS : va_S (RA base) s.heap s.heap [] := va_S.rf
  have hl : lv_has ls 2 [(0, .ref a), (1, .int v)] := hl
  refine lv_iload_n hx hb dX10_isThing_0 rfl (lv_at hl 1 rfl) ?_
  refine lv_i2l hx hb dX10_isThing_1 rfl ?_
  refine lv_topl (fun z_1 ez_1 => ?_)
  have tz_1 : z_1.toInt = v.toInt := by rw [ez_1]; exact wide_t v
  have az_1 := min_t v
  have bz_1 := max_t v
  refine lv_lconst (v := 0) hx hb dX10_isThing_2 (by decide) ?_
  refine lv_aload_n hx hb dX10_isThing_3 rfl (lv_at hl 0 rfl) ?_
  refine t_getr cf_11 hx hb hts hown hK hT h_a (k := 18) (P := fun q => τ q = 68) rfl (fun _ h9 => h9) fl_X10_37 (fun _ h9 => h9) dX10_isThing_4 (fun q_2 eq_2 hq_2 => ?_)
  have w_3 : tha = q_2 := Option.some.inj (e_tha.symm.trans eq_2)
  subst w_3
  refine lv_iconst (v := 0) hx hb dX10_isThing_7 (by decide) ?_
  refine t_iald (n := 5) (i := 0) rfl (by decide) hx hb hK hT h_tha (hT.len h_tha (by decide)) ⟨by decide, by decide⟩ dX10_isThing_8 (fun z_4 ez_4 rz_4 => ?_)
  have w_5 : th0 = z_4 := e_th0.trans ez_4.symm
  subst w_5
  refine lv_iconst (v := 1) hx hb dX10_isThing_9 (by decide) ?_
  refine lv_isub hx hb dX10_isThing_10 ?_
  refine lv_topi (fun z_6 ez_6 => ?_)
  have tz_6 : z_6.toInt = th0.toInt - 1 := sub_t ez_6 (show -2147483648 ≤ th0.toInt - 1 by omega) (show th0.toInt - 1 < 2147483648 by omega)
  refine lv_i2l hx hb dX10_isThing_11 rfl ?_
  refine lv_topl (fun z_7 ez_7 => ?_)
  have tz_7 : z_7.toInt = z_6.toInt := by rw [ez_7]; exact wide_t z_6
  refine pu_calli (runS (As := [.long z_1, .long 0, .long z_7]) (rest := []) ⟨hx, hb, hml, hown, hts⟩ (t_X10_in l D cy base τ G z_1 0 z_7) sS_X10_116 hK ⟨Nat.le_trans hZ hS.1, hT⟩ ⟨Nat.le_of_ble_eq_true rfl, Nat.le_of_ble_eq_true rfl⟩ rfl hl.1 rfl (Nat.le_of_ble_eq_true rfl) dX10_isThing_12 ⟨Nat.le_of_ble_eq_true rfl, Nat.le_of_ble_eq_true rfl⟩) (fun r_8 hr_8 => ?_)
  have hr_8_c := hr_8
  rcases hr_8_c with hr_8_0 | hr_8_1
  · skip
    obtain ⟨er_8, hr_8_0_f0, hr_8_0_f1⟩ := hr_8_0
    have hr_8_0_f0 : 0 ≤ z_1.toInt := hr_8_0_f0
    have hr_8_0_f1 : z_1.toInt ≤ z_7.toInt := hr_8_0_f1
    subst er_8
    refine W.eq (g2 := F0 m 15 ls [.int 1]) rfl ?_
    exact ret_z (ty := .boolean) hx hb hr rfl hlocks ⟨rfl, _, rfl, (Or.inl ⟨rfl, (by omega), (by omega), (by omega)⟩)⟩ (fun _ h => absurd h List.not_mem_nil) (Nat.le_refl _) (Nat.le_refl _) dX10_isThing_15
  · skip
    have er_8 := hr_8_1
    subst er_8
    refine W.eq (g2 := F0 m 15 ls [.int 0]) rfl ?_
    exact ret_z (ty := .boolean) hx hb hr rfl hlocks ⟨rfl, _, rfl, (Or.inr rfl)⟩ (fun _ h => absurd h List.not_mem_nil) (Nat.le_refl _) (Nat.le_refl _) dX10_isThing_15
set_option maxHeartbeats 4000000 in
set_option maxRecDepth 100000 in
theorem t_X10_isStore2 (l : Launch) (D : va_G) (cy : Nat → ClassId) (base : Nat) (τ : Nat → Nat) (G : Gh) (a : Nat) (h_a : τ a = 11) (v : Int32) (w : Int32) (z : Int32) (tha : Nat) (h_tha : τ tha = 68) (e_tha : G.2.2.1 a 18 = some tha) (th0 : Int32) (e_th0 : th0 = G.1 tha 0) (r_th0 : 0 ≤ th0.toInt ∧ th0.toInt ≤ 3) : MM l yX10_isStore cX10_isStore 4 (some .boolean) 2 0 0 D cy [.ref a, .int v, .int w, .int z] (PT D cy base τ G) (PuI (fun r => ((r = 1 ∧ 0 ≤ v.toInt ∧ v.toInt ≤ 5 ∧ 0 ≤ w.toInt ∧ w.toInt ≤ 2 ∧ 0 ≤ z.toInt ∧ z.toInt ≤ 999 ∧ w.toInt < th0.toInt) ∨ (r = 0)))) noF := by
  refine MM.of (by decide) (Nat.le_of_ble_eq_true rfl) ?_
  intro p e s m below meth c C hPT ls hl
  obtain ⟨hx, hb, hr, hml, hown, hts, hlocks, hK, hnm⟩ := C
  obtain ⟨hZ, hT⟩ := hPT
  have hS : va_S (RA base) s.heap s.heap [] := va_S.rf
  have hl : lv_has ls 4 [(0, .ref a), (1, .int v), (2, .int w), (3, .int z)] := hl
  refine lv_aload_n hx hb dX10_isStore_0 rfl (lv_at hl 0 rfl) ?_
  refine lv_iload_n hx hb dX10_isStore_1 rfl (lv_at hl 1 rfl) ?_
  refine pu_calli (runV (As := [.int v]) (rest := []) ⟨hx, hb, hml, hown, hts⟩ (t_X10_isValley l D cy base τ G a h_a v) sV_X10_297 hK (t_recv cf_11 hK hT h_a) ⟨Nat.le_trans hZ hS.1, hT⟩ ⟨Nat.le_of_ble_eq_true rfl, Nat.le_of_ble_eq_true rfl⟩ rfl hl.1 rfl (Nat.le_of_ble_eq_true rfl) dX10_isStore_2 ⟨Nat.le_of_ble_eq_true rfl, Nat.le_of_ble_eq_true rfl⟩) (fun r_1 hr_1 => ?_)
  have hr_1_c := hr_1
  rcases hr_1_c with hr_1_0 | hr_1_1
  · skip
    obtain ⟨er_1, hr_1_0_f0, hr_1_0_f1⟩ := hr_1_0
    have hr_1_0_f0 : 0 ≤ v.toInt := hr_1_0_f0
    have hr_1_0_f1 : v.toInt ≤ 5 := hr_1_0_f1
    subst er_1
    refine W.eq (g2 := F0 m 5 ls [.int 1]) rfl ?_
    refine lv_if_eq (tgt := 28) hx hb dX10_isStore_5 (by decide) (fun c_2 => absurd c_2 (by decide)) (fun _ => ?_)
    refine lv_aload_n hx hb dX10_isStore_8 rfl (lv_at hl 0 rfl) ?_
    refine lv_iload_n hx hb dX10_isStore_9 rfl (lv_at hl 2 rfl) ?_
    refine pu_calli (runV (As := [.int w]) (rest := []) ⟨hx, hb, hml, hown, hts⟩ (t_X10_isThing2 l D cy base τ G a h_a w tha h_tha e_tha th0 e_th0 ⟨by omega, by omega⟩) sV_X10_350 hK (t_recv cf_11 hK hT h_a) ⟨Nat.le_trans hZ hS.1, hT⟩ ⟨Nat.le_of_ble_eq_true rfl, Nat.le_of_ble_eq_true rfl⟩ rfl hl.1 rfl (Nat.le_of_ble_eq_true rfl) dX10_isStore_10 ⟨Nat.le_of_ble_eq_true rfl, Nat.le_of_ble_eq_true rfl⟩) (fun r_3 hr_3 => ?_)
    have hr_3_c := hr_3
    rcases hr_3_c with hr_3_0 | hr_3_1
    · skip
      obtain ⟨er_3, hr_3_0_f0, hr_3_0_f1, hr_3_0_f2⟩ := hr_3_0
      have hr_3_0_f0 : 0 ≤ w.toInt := hr_3_0_f0
      have hr_3_0_f1 : w.toInt ≤ 2 := hr_3_0_f1
      have hr_3_0_f2 : w.toInt < th0.toInt := hr_3_0_f2
      subst er_3
      refine W.eq (g2 := F0 m 13 ls [.int 1]) rfl ?_
      refine lv_if_eq (tgt := 28) hx hb dX10_isStore_13 (by decide) (fun c_4 => absurd c_4 (by decide)) (fun _ => ?_)
      refine lv_aload_n hx hb dX10_isStore_16 rfl (lv_at hl 0 rfl) ?_
      refine lv_iload_n hx hb dX10_isStore_17 rfl (lv_at hl 3 rfl) ?_
      refine pu_calli (runV (As := [.int z]) (rest := []) ⟨hx, hb, hml, hown, hts⟩ (t_X10_areSacks l D cy base τ G a h_a z) sV_X10_372 hK (t_recv cf_11 hK hT h_a) ⟨Nat.le_trans hZ hS.1, hT⟩ ⟨Nat.le_of_ble_eq_true rfl, Nat.le_of_ble_eq_true rfl⟩ rfl hl.1 rfl (Nat.le_of_ble_eq_true rfl) dX10_isStore_18 ⟨Nat.le_of_ble_eq_true rfl, Nat.le_of_ble_eq_true rfl⟩) (fun r_5 hr_5 => ?_)
      have hr_5_c := hr_5
      rcases hr_5_c with hr_5_0 | hr_5_1
      · skip
        obtain ⟨er_5, hr_5_0_f0, hr_5_0_f1⟩ := hr_5_0
        have hr_5_0_f0 : 0 ≤ z.toInt := hr_5_0_f0
        have hr_5_0_f1 : z.toInt ≤ 999 := hr_5_0_f1
        subst er_5
        refine W.eq (g2 := F0 m 21 ls [.int 1]) rfl ?_
        refine lv_if_eq (tgt := 28) hx hb dX10_isStore_21 (by decide) (fun c_6 => absurd c_6 (by decide)) (fun _ => ?_)
        refine lv_iconst (v := 1) hx hb dX10_isStore_24 (by decide) ?_
        refine lv_goto (tgt := 29) hx hb dX10_isStore_25 (by decide) ?_
        exact ret_z (ty := .boolean) hx hb hr rfl hlocks ⟨rfl, _, rfl, (Or.inl ⟨rfl, (by omega), (by omega), (by omega), (by omega), (by omega), (by omega), (by omega)⟩)⟩ (fun _ h => absurd h List.not_mem_nil) (Nat.le_refl _) (Nat.le_refl _) dX10_isStore_29
      · skip
        have er_5 := hr_5_1
        subst er_5
        refine W.eq (g2 := F0 m 21 ls [.int 0]) rfl ?_
        refine lv_if_eq (tgt := 28) hx hb dX10_isStore_21 (by decide) (fun _ => ?_) (fun c_7 => absurd (by decide) c_7)
        refine lv_iconst (v := 0) hx hb dX10_isStore_28 (by decide) ?_
        exact ret_z (ty := .boolean) hx hb hr rfl hlocks ⟨rfl, _, rfl, (Or.inr rfl)⟩ (fun _ h => absurd h List.not_mem_nil) (Nat.le_refl _) (Nat.le_refl _) dX10_isStore_29
    · skip
      have er_3 := hr_3_1
      subst er_3
      refine W.eq (g2 := F0 m 13 ls [.int 0]) rfl ?_
      refine lv_if_eq (tgt := 28) hx hb dX10_isStore_13 (by decide) (fun _ => ?_) (fun c_8 => absurd (by decide) c_8)
      refine lv_iconst (v := 0) hx hb dX10_isStore_28 (by decide) ?_
      exact ret_z (ty := .boolean) hx hb hr rfl hlocks ⟨rfl, _, rfl, (Or.inr rfl)⟩ (fun _ h => absurd h List.not_mem_nil) (Nat.le_refl _) (Nat.le_refl _) dX10_isStore_29
  · skip
    have er_1 := hr_1_1
    subst er_1
    refine W.eq (g2 := F0 m 5 ls [.int 0]) rfl ?_
    refine lv_if_eq (tgt := 28) hx hb dX10_isStore_5 (by decide) (fun _ => ?_) (fun c_9 => absurd (by decide) c_9)
    refine lv_iconst (v := 0) hx hb dX10_isStore_28 (by decide) ?_
    exact ret_z (ty := .boolean) hx hb hr rfl hlocks ⟨rfl, _, rfl, (Or.inr rfl)⟩ (fun _ h => absurd h List.not_mem_nil) (Nat.le_refl _) (Nat.le_refl _) dX10_isStore_29
set_option maxHeartbeats 4000000 in
set_option maxRecDepth 100000 in
theorem t_X10_signs (l : Launch) (D : va_G) (cy : Nat → ClassId) (base : Nat) (τ : Nat → Nat) (G : Gh) (a : Nat) (h_a : τ a = 11) (v0 : Int32) (v1 : Int32) (tha : Nat) (h_tha : τ tha = 68) (e_tha : G.2.2.1 a 18 = some tha) (sa : Nat) (h_sa : τ sa = 74) (e_sa : G.2.2.1 a 24 = some sa) (hI : INV G tha sa) : MM l yX10_signs cX10_signs 8 (some .long) 6 0 0 D cy [.ref a, .int v0, .int v1] (PT D cy base τ G) (QT D cy base τ G [11, 79, 88] (fun v g => ∃ r : Int64, v = some (.long r) ∧ (True))) (RA base) := by
  refine MM.of (by decide) (Nat.le_of_ble_eq_true rfl) ?_
  intro p e s m below meth c C hPT ls hl
  obtain ⟨hx, hb, hr, hml, hown, hts, hlocks, hK, hnm⟩ := C
  obtain ⟨hZ, hT⟩ := hPT
  have hS : va_S (RA base) s.heap s.heap [] := va_S.rf
  have hF : Fr τ [11, 79, 88] G G := Fr.rf
  have hl : lv_has ls 8 [(0, .ref a), (1, .int v0), (2, .int v1)] := hl
  refine lv_aload_n hx hb dX10_signs_0 rfl (lv_at hl 0 rfl) ?_
  refine lv_iconst (v := 0) hx hb dX10_signs_1 (by decide) ?_
  refine t_puti (x := 0) cf_11 hx hb hts hown hK hT hS h_a (k := 0) rfl trivial fl_X10_111 (fun _ h9 => h9) rfl rfl rfl dX10_signs_2 (fun H locs G_1 eG_1 hT hS => ?_)
  have hF := hF.wI eG_1 h_a rfl
  refine lv_aload_n hx hb dX10_signs_5 rfl (lv_at hl 0 rfl) ?_
  refine lv_iload_n hx hb dX10_signs_6 rfl (lv_at hl 1 rfl) ?_
  refine lv_iload_n hx hb dX10_signs_7 rfl (lv_at hl 2 rfl) ?_
  refine lv_iconst (v := 0) hx hb dX10_signs_8 (by decide) ?_
  obtain ⟨z_2, ez_2⟩ : ∃ y : Int32, y = G_1.1 tha 0 := ⟨_, rfl⟩
  have rz_2 : 0 ≤ z_2.toInt ∧ z_2.toInt ≤ 3 := by rw [ez_2]; exact hT.rgi h_tha (by decide) 0
  have ez_2 : z_2 = G.1 tha 0 := ez_2.trans (hF.i h_tha (by decide) rfl _)
  refine pu_calli (runV (As := [.int v0, .int v1, .int 0]) (rest := []) ⟨hx, hb, hml, hown, hts⟩ (t_X10_isStore2 l D cy base τ G_1 a h_a v0 v1 0 tha h_tha ((hF.r h_a (by decide) rfl _).trans e_tha) z_2 (ez_2.trans (hF.i h_tha (by decide) rfl _).symm) ⟨by omega, by omega⟩) sV_X10_375 hK (t_recv cf_11 hK hT h_a) ⟨Nat.le_trans hZ hS.1, hT⟩ ⟨Nat.le_of_ble_eq_true rfl, Nat.le_of_ble_eq_true rfl⟩ rfl hl.1 rfl (Nat.le_of_ble_eq_true rfl) dX10_signs_9 ⟨Nat.le_of_ble_eq_true rfl, Nat.le_of_ble_eq_true rfl⟩) (fun r_3 hr_3 => ?_)
  have hr_3_c := hr_3
  rcases hr_3_c with hr_3_0 | hr_3_1
  · skip
    obtain ⟨er_3, hr_3_0_f0, hr_3_0_f1, hr_3_0_f2, hr_3_0_f3, hr_3_0_f4, hr_3_0_f5, hr_3_0_f6⟩ := hr_3_0
    have hr_3_0_f0 : 0 ≤ v0.toInt := hr_3_0_f0
    have hr_3_0_f1 : v0.toInt ≤ 5 := hr_3_0_f1
    have hr_3_0_f2 : 0 ≤ v1.toInt := hr_3_0_f2
    have hr_3_0_f3 : v1.toInt ≤ 2 := hr_3_0_f3
    have hr_3_0_f6 : v1.toInt < z_2.toInt := hr_3_0_f6
    subst er_3
    refine W.eq (g2 := F0 m 12 ls [.int 1]) rfl ?_
    refine lv_if_ne (tgt := 19) hx hb dX10_signs_12 (by decide) (fun _ => ?_) (fun c_4 => absurd c_4 (by decide))
    refine lv_aload_n hx hb dX10_signs_19 rfl (lv_at hl 0 rfl) ?_
    refine lv_iload_n hx hb dX10_signs_20 rfl (lv_at hl 1 rfl) ?_
    refine t_callv (runV (As := [.int v0]) (rest := []) ⟨hx, hb, hml, hown, hts⟩ (t_X10_splits l D cy base τ G_1 a h_a v0 ⟨by omega, by omega⟩) sV_X10_302 hK (t_recv cf_11 hK hT h_a) ⟨Nat.le_trans hZ hS.1, hT⟩ ⟨Nat.le_of_ble_eq_true rfl, Nat.le_of_ble_eq_true rfl⟩ rfl hl.1 rfl (Nat.le_of_ble_eq_true rfl) dX10_signs_21 ⟨Nat.le_of_ble_eq_true rfl, Nat.le_of_ble_eq_true rfl⟩) hS (fun G_5 H locs hF_5 hr_5 hT hS => ?_)
    have hF := hF.tr hF_5 rfl
    refine lv_lconst (v := 0) hx hb dX10_signs_24 (by decide) ?_
    refine lv_lstore_n (lv' := [(3, .long 0), (0, .ref a), (1, .int v0), (2, .int v1)]) hx hb dX10_signs_25 rfl hl (by decide) rfl (fun ls hl => ?_)
    refine lv_iconst (v := 0) hx hb dX10_signs_26 (by decide) ?_
    refine lv_istore (lv' := [(5, .int 0), (3, .long 0), (0, .ref a), (1, .int v0), (2, .int v1)]) hx hb dX10_signs_27 hl (by decide) rfl (fun ls hl => ?_)
    refine W.loop (σ := Int64 × Int32 × Gh) (fun w6 H locs ls => 0 ≤ w6.2.1.toInt ∧ w6.2.1.toInt ≤ 1000 ∧ Fr τ [11, 79, 88] G w6.2.2 ∧ TY D cy base τ w6.2.2 H ∧ va_S (RA base) s.heap H locs ∧ lv_has ls 8 [(3, .long w6.1), (5, .int w6.2.1), (0, .ref a), (1, .int v0), (2, .int v1)]) (fun w6 => (1000 - w6.2.1.toInt).toNat) ?_ ((0 : Int64), (0 : Int32), G_5) _ _ _ ⟨(by show 0 ≤ (0 : Int32).toInt; decide), (by show (0 : Int32).toInt ≤ 1000; decide), hF, hT, hS, lv_sub hl [1, 0, 2, 3, 4] rfl⟩
    intro w6 H locs ls hI ih6
    obtain ⟨x6_3, x6_5, G_6⟩ := w6
    obtain ⟨i6_0, i6_1, hF, hT, hS, hl⟩ := hI
    have i6_0 : 0 ≤ x6_5.toInt := i6_0
    have i6_1 : x6_5.toInt ≤ 1000 := i6_1
    have hF : Fr τ [11, 79, 88] G G_6 := hF
    have hT : TY D cy base τ G_6 H := hT
    have hS : va_S (RA base) s.heap H locs := hS
    have hl : lv_has ls 8 [(3, .long x6_3), (5, .int x6_5), (0, .ref a), (1, .int v0), (2, .int v1)] := hl
    refine lv_iload hx hb dX10_signs_29 (lv_at hl 1 rfl) ?_
    refine lv_sipush (v := 999) hx hb dX10_signs_31 (by decide) ?_
    refine lv_icmp_gt (tgt := 108) hx hb dX10_signs_34 (by decide) (fun c_7 => ?_) (fun c_7 => ?_)
    · skip
      have tc_7 : 999 < x6_5.toInt := (fa_lt _ _).mp c_7
      refine lv_lload_n hx hb dX10_signs_108 rfl (lv_at hl 0 rfl) ?_
      refine lv_aload_n hx hb dX10_signs_109 rfl (lv_at hl 2 rfl) ?_
      refine lv_iload_n hx hb dX10_signs_110 rfl (lv_at hl 3 rfl) ?_
      refine lv_iload_n hx hb dX10_signs_111 rfl (lv_at hl 4 rfl) ?_
      refine t_calll (runV (As := [.int v0, .int v1]) (rest := [.long x6_3]) ⟨hx, hb, hml, hown, hts⟩ (t_X10_lateOf l D cy base τ G_6 a h_a v0 ⟨by omega, by omega⟩ v1 ⟨by omega, by omega⟩) sV_X10_410 hK (t_recv cf_11 hK hT h_a) ⟨Nat.le_trans hZ hS.1, hT⟩ ⟨Nat.le_of_ble_eq_true rfl, Nat.le_of_ble_eq_true rfl⟩ rfl hl.1 rfl (Nat.le_of_ble_eq_true rfl) dX10_signs_112 ⟨Nat.le_of_ble_eq_true rfl, Nat.le_of_ble_eq_true rfl⟩) hS (fun r_8 G_8 H locs hF_8 hr_8 hT hS => ?_)
      have hF := hF.tr hF_8 rfl
      refine lv_lsub hx hb dX10_signs_115 ?_
      refine lv_topl (fun z_9 ez_9 => ?_)
      exact ret_l hx hb hr hlocks ⟨⟨hS.1, hS.2.1⟩, G_8, hF, ⟨_, rfl, trivial⟩, hT⟩ hS.2.2 (Nat.le_of_ble_eq_true rfl) (Nat.le_of_ble_eq_true rfl) dX10_signs_116
    · skip
      have tc_7 : ¬ 999 < x6_5.toInt := fun h => c_7 ((fa_lt _ _).mpr h)
      refine lv_aload_n hx hb dX10_signs_37 rfl (lv_at hl 2 rfl) ?_
      refine lv_iload_n hx hb dX10_signs_38 rfl (lv_at hl 3 rfl) ?_
      refine lv_iload_n hx hb dX10_signs_39 rfl (lv_at hl 4 rfl) ?_
      refine lv_iload hx hb dX10_signs_40 (lv_at hl 1 rfl) ?_
      refine pu_calll (runV (As := [.int v0, .int v1, .int x6_5]) (rest := []) ⟨hx, hb, hml, hown, hts⟩ (t_X10_costOf l D cy base τ G_6 a h_a v0 ⟨by omega, by omega⟩ v1 ⟨by omega, by omega⟩ x6_5) sV_X10_378 hK (t_recv cf_11 hK hT h_a) ⟨Nat.le_trans hZ hS.1, hT⟩ ⟨Nat.le_of_ble_eq_true rfl, Nat.le_of_ble_eq_true rfl⟩ rfl hl.1 rfl (Nat.le_of_ble_eq_true rfl) dX10_signs_42 ⟨Nat.le_of_ble_eq_true rfl, Nat.le_of_ble_eq_true rfl⟩) (fun r_10 hr_10 => ?_)
      refine lv_ldc2 (v := 1000000000) hx hb hown (hts _ kl_X10_345) dX10_signs_45 ?_
      refine lv_ldiv hx hb dX10_signs_48 (by decide) ?_
      refine lv_topl (fun z_11 ez_11 => ?_)
      refine lv_ldc2 (v := 1000) hx hb hown (hts _ kl_X10_343) dX10_signs_49 ?_
      refine lv_aload_n hx hb dX10_signs_52 rfl (lv_at hl 2 rfl) ?_
      refine t_getr cf_11 hx hb hts hown hK hT h_a (k := 24) (P := fun q => τ q = 74) rfl (fun _ h9 => h9) fl_X10_55 (fun _ h9 => h9) dX10_signs_53 (fun q_12 eq_12 hq_12 => ?_)
      have w_13 : sa = q_12 := Option.some.inj (e_sa.symm.trans ((hF.r h_a (by decide) rfl _).symm.trans eq_12))
      subst w_13
      refine lv_iconst (v := 2) hx hb dX10_signs_56 (by decide) ?_
      refine t_iald (n := 30) (i := 2) rfl (by decide) hx hb hK hT h_sa (hT.len h_sa (by decide)) ⟨by decide, by decide⟩ dX10_signs_57 (fun z_14 ez_14 rz_14 => ?_)
      have ez_14 : z_14 = G_6.1 sa 2 := ez_14
      have ez_14 : z_14 = G.1 sa 2 := ez_14.trans (hF.i h_sa (by decide) rfl _)
      refine lv_i2l hx hb dX10_signs_58 rfl ?_
      refine lv_topl (fun z_15 ez_15 => ?_)
      have tz_15 : z_15.toInt = z_14.toInt := by rw [ez_15]; exact wide_t z_14
      have az_15 := min_t z_14
      have bz_15 := max_t z_14
      refine lv_lmul hx hb dX10_signs_59 ?_
      refine lv_topl (fun z_16 ez_16 => ?_)
      have tz_16 : z_16.toInt = 1000 * z_15.toInt := mul_t64 ez_16 (show -9223372036854775808 ≤ 1000 * z_15.toInt by omega) (show 1000 * z_15.toInt < 9223372036854775808 by omega)
      refine lv_iload hx hb dX10_signs_60 (lv_at hl 1 rfl) ?_
      refine lv_aload_n hx hb dX10_signs_62 rfl (lv_at hl 2 rfl) ?_
      refine t_getr cf_11 hx hb hts hown hK hT h_a (k := 24) (P := fun q => τ q = 74) rfl (fun _ h9 => h9) fl_X10_55 (fun _ h9 => h9) dX10_signs_63 (fun q_17 eq_17 hq_17 => ?_)
      have w_18 : sa = q_17 := Option.some.inj (e_sa.symm.trans ((hF.r h_a (by decide) rfl _).symm.trans eq_17))
      subst w_18
      refine lv_iconst (v := 1) hx hb dX10_signs_66 (by decide) ?_
      refine t_iald (n := 30) (i := 1) rfl (by decide) hx hb hK hT h_sa (hT.len h_sa (by decide)) ⟨by decide, by decide⟩ dX10_signs_67 (fun z_19 ez_19 rz_19 => ?_)
      have ez_19 : z_19 = G_6.1 sa 1 := ez_19
      have ez_19 : z_19 = G.1 sa 1 := ez_19.trans (hF.i h_sa (by decide) rfl _)
      have qz_19 : (1 % 6 = 0 → 0 ≤ z_19.toInt ∧ z_19.toInt ≤ 9) ∧ (1 % 6 = 1 → 0 ≤ z_19.toInt ∧ z_19.toInt ≤ 50) ∧ (1 % 6 = 3 → 0 ≤ z_19.toInt ∧ z_19.toInt ≤ 50) := rz_19
      have rz_19 : 0 ≤ z_19.toInt ∧ z_19.toInt ≤ 50 := by omega
      refine lv_iadd hx hb dX10_signs_68 ?_
      refine lv_topi (fun z_20 ez_20 => ?_)
      have tz_20 : z_20.toInt = x6_5.toInt + z_19.toInt := add_t ez_20 (show -2147483648 ≤ x6_5.toInt + z_19.toInt by omega) (show x6_5.toInt + z_19.toInt < 2147483648 by omega)
      refine lv_iconst (v := 1) hx hb dX10_signs_69 (by decide) ?_
      refine lv_isub hx hb dX10_signs_70 ?_
      refine lv_topi (fun z_21 ez_21 => ?_)
      have tz_21 : z_21.toInt = z_20.toInt - 1 := sub_t ez_21 (show -2147483648 ≤ z_20.toInt - 1 by omega) (show z_20.toInt - 1 < 2147483648 by omega)
      refine lv_aload_n hx hb dX10_signs_71 rfl (lv_at hl 2 rfl) ?_
      refine t_getr cf_11 hx hb hts hown hK hT h_a (k := 24) (P := fun q => τ q = 74) rfl (fun _ h9 => h9) fl_X10_55 (fun _ h9 => h9) dX10_signs_72 (fun q_22 eq_22 hq_22 => ?_)
      have w_23 : sa = q_22 := Option.some.inj (e_sa.symm.trans ((hF.r h_a (by decide) rfl _).symm.trans eq_22))
      subst w_23
      refine lv_iconst (v := 1) hx hb dX10_signs_75 (by decide) ?_
      refine t_iald (n := 30) (i := 1) rfl (by decide) hx hb hK hT h_sa (hT.len h_sa (by decide)) ⟨by decide, by decide⟩ dX10_signs_76 (fun z_24 ez_24 rz_24 => ?_)
      have w_25 : z_19 = z_24 := ez_19.trans (ez_24.trans (hF.i h_sa (by decide) rfl _)).symm
      subst w_25
      have o_z_19 : 1 ≤ z_19.toInt := by rw [ez_19]; exact hI 0 (by decide) (by rw [← ez_2]; omega)
      refine lv_idiv hx hb dX10_signs_77 (ne0_i (by omega)) ?_
      refine lv_topi (fun z_26 ez_26 => ?_)
      refine lv_i2l hx hb dX10_signs_78 rfl ?_
      refine lv_topl (fun z_27 ez_27 => ?_)
      have tz_27 : z_27.toInt = z_26.toInt := by rw [ez_27]; exact wide_t z_26
      have az_27 := min_t z_26
      have bz_27 := max_t z_26
      refine lv_lmul hx hb dX10_signs_79 ?_
      refine lv_topl (fun z_28 ez_28 => ?_)
      refine lv_ladd hx hb dX10_signs_80 ?_
      refine lv_topl (fun z_29 ez_29 => ?_)
      refine lv_lstore (lv' := [(6, .long z_29), (3, .long x6_3), (5, .int x6_5), (0, .ref a), (1, .int v0), (2, .int v1)]) hx hb dX10_signs_81 hl (by decide) rfl (fun ls hl => ?_)
      refine lv_iload hx hb dX10_signs_83 (lv_at hl 2 rfl) ?_
      refine lv_if_eq (tgt := 95) hx hb dX10_signs_85 (by decide) (fun c_30 => ?_) (fun c_30 => ?_)
      · skip
        have tc_30 : x6_5.toInt = 0 := (fa_eq _ _).mp c_30
        refine lv_lload hx hb dX10_signs_95 (lv_at hl 0 rfl) ?_
        refine lv_goto (tgt := 101) hx hb dX10_signs_97 (by decide) ?_
        refine lv_lstore_n (lv' := [(3, .long z_29), (6, .long z_29), (5, .int x6_5), (0, .ref a), (1, .int v0), (2, .int v1)]) hx hb dX10_signs_101 rfl hl (by decide) rfl (fun ls hl => ?_)
        obtain ⟨z_31, ez_31⟩ : ∃ y : Int32, y = x6_5 + 1 := ⟨_, rfl⟩
        have tz_31 : z_31.toInt = x6_5.toInt + 1 := add_t ez_31 (show -2147483648 ≤ x6_5.toInt + 1 by omega) (show x6_5.toInt + 1 < 2147483648 by omega)
        refine lv_iinc (v := z_31) (lv' := [(5, .int z_31), (3, .long z_29), (6, .long z_29), (0, .ref a), (1, .int v0), (2, .int v1)]) hx hb dX10_signs_102 hl (k := 2) rfl (by rw [ez_31]; rfl) (by decide) rfl (fun ls hl => ?_)
        refine lv_goto (tgt := 29) hx hb dX10_signs_105 (by decide) ?_
        exact ih6 (z_29, z_31, G_6) _ _ _ (by show (1000 - z_31.toInt).toNat < (1000 - x6_5.toInt).toNat; omega) ⟨(by show 0 ≤ z_31.toInt; omega), (by show z_31.toInt ≤ 1000; omega), hF, hT, hS, lv_sub hl [1, 0, 3, 4, 5] rfl⟩
      · skip
        have tc_30 : ¬ x6_5.toInt = 0 := fun h => c_30 ((fa_eq _ _).mpr h)
        refine lv_lload hx hb dX10_signs_88 (lv_at hl 0 rfl) ?_
        refine lv_lload_n hx hb dX10_signs_90 rfl (lv_at hl 1 rfl) ?_
        refine W.lcmp hx hb dX10_signs_91 ?_
        refine lv_topi (fun z_32 ez_32 => ?_)
        have tz_32 : (z_32.toInt < 0 ↔ z_29.toInt < x6_3.toInt) ∧ (0 < z_32.toInt ↔ x6_3.toInt < z_29.toInt) ∧ -1 ≤ z_32.toInt ∧ z_32.toInt ≤ 1 := cmp_t ez_32
        refine lv_if_ge (tgt := 100) hx hb dX10_signs_92 (by decide) (fun c_33 => ?_) (fun c_33 => ?_)
        · skip
          have tc_33 : 0 ≤ z_32.toInt := (fa_le _ _).mp c_33
          refine lv_lload_n hx hb dX10_signs_100 rfl (lv_at hl 1 rfl) ?_
          refine lv_lstore_n (lv' := [(3, .long x6_3), (6, .long z_29), (5, .int x6_5), (0, .ref a), (1, .int v0), (2, .int v1)]) hx hb dX10_signs_101 rfl hl (by decide) rfl (fun ls hl => ?_)
          obtain ⟨z_34, ez_34⟩ : ∃ y : Int32, y = x6_5 + 1 := ⟨_, rfl⟩
          have tz_34 : z_34.toInt = x6_5.toInt + 1 := add_t ez_34 (show -2147483648 ≤ x6_5.toInt + 1 by omega) (show x6_5.toInt + 1 < 2147483648 by omega)
          refine lv_iinc (v := z_34) (lv' := [(5, .int z_34), (3, .long x6_3), (6, .long z_29), (0, .ref a), (1, .int v0), (2, .int v1)]) hx hb dX10_signs_102 hl (k := 2) rfl (by rw [ez_34]; rfl) (by decide) rfl (fun ls hl => ?_)
          refine lv_goto (tgt := 29) hx hb dX10_signs_105 (by decide) ?_
          exact ih6 (x6_3, z_34, G_6) _ _ _ (by show (1000 - z_34.toInt).toNat < (1000 - x6_5.toInt).toNat; omega) ⟨(by show 0 ≤ z_34.toInt; omega), (by show z_34.toInt ≤ 1000; omega), hF, hT, hS, lv_sub hl [1, 0, 3, 4, 5] rfl⟩
        · skip
          have tc_33 : ¬ 0 ≤ z_32.toInt := fun h => c_33 ((fa_le _ _).mpr h)
          refine lv_lload hx hb dX10_signs_95 (lv_at hl 0 rfl) ?_
          refine lv_goto (tgt := 101) hx hb dX10_signs_97 (by decide) ?_
          refine lv_lstore_n (lv' := [(3, .long z_29), (6, .long z_29), (5, .int x6_5), (0, .ref a), (1, .int v0), (2, .int v1)]) hx hb dX10_signs_101 rfl hl (by decide) rfl (fun ls hl => ?_)
          obtain ⟨z_35, ez_35⟩ : ∃ y : Int32, y = x6_5 + 1 := ⟨_, rfl⟩
          have tz_35 : z_35.toInt = x6_5.toInt + 1 := add_t ez_35 (show -2147483648 ≤ x6_5.toInt + 1 by omega) (show x6_5.toInt + 1 < 2147483648 by omega)
          refine lv_iinc (v := z_35) (lv' := [(5, .int z_35), (3, .long z_29), (6, .long z_29), (0, .ref a), (1, .int v0), (2, .int v1)]) hx hb dX10_signs_102 hl (k := 2) rfl (by rw [ez_35]; rfl) (by decide) rfl (fun ls hl => ?_)
          refine lv_goto (tgt := 29) hx hb dX10_signs_105 (by decide) ?_
          exact ih6 (z_29, z_35, G_6) _ _ _ (by show (1000 - z_35.toInt).toNat < (1000 - x6_5.toInt).toNat; omega) ⟨(by show 0 ≤ z_35.toInt; omega), (by show z_35.toInt ≤ 1000; omega), hF, hT, hS, lv_sub hl [1, 0, 3, 4, 5] rfl⟩
  · skip
    have er_3 := hr_3_1
    subst er_3
    refine W.eq (g2 := F0 m 12 ls [.int 0]) rfl ?_
    refine lv_if_ne (tgt := 19) hx hb dX10_signs_12 (by decide) (fun c_36 => absurd rfl c_36) (fun _ => ?_)
    refine lv_ldc2 (v := (-1000000000000)) hx hb hown (hts _ kl_X10_381) dX10_signs_15 ?_
    exact ret_l hx hb hr hlocks ⟨⟨hS.1, hS.2.1⟩, G_1, hF, ⟨_, rfl, trivial⟩, hT⟩ hS.2.2 (Nat.le_of_ble_eq_true rfl) (Nat.le_of_ble_eq_true rfl) dX10_signs_18
def RCs (G : Gh) (ca la t r s : Nat) : Int64 := G.2.1 ca (1000 * t + s) + G.2.1 la (1000 * (t + 1) + (r - s))
/-- a place that gives the least -/
def RCH (G : Gh) (ca la t r : Nat) : Prop := ∃ s : Nat, s ≤ r ∧ RCs G ca la t r s = G.2.1 la (1000 * t + r)
theorem rcs_of {G : Gh} {ca la t r s i1 i2 : Nat} {z1 z2 z : Int64} (e1 : z1 = G.2.1 ca i1) (e2 : z2 = G.2.1 la i2) (e : z = z1 + z2) (h1 : i1 = 1000 * t + s) (h2 : i2 = 1000 * (t + 1) + (r - s)) : RCs G ca la t r s = z := by
  unfold RCs
  rw [e, e1, e2, h1, h2]
theorem RCs.st {G : Gh} {ca la t r s k : Nat} {x : Int64} (hcl : ca ≠ la) (hk : k < 1000 * (t + 1)) : RCs (wL G la k x) ca la t r s = RCs G ca la t r s := by
  unfold RCs
  rw [wL_ne (Or.inl hcl), wL_ne (Or.inr (by omega))]
theorem RCH.st {G : Gh} {ca la t r k : Nat} {x : Int64} (h : RCH G ca la t r) (hcl : ca ≠ la) (hk : k < 1000 * (t + 1)) (hr : 1000 * t + r ≠ k) : RCH (wL G la k x) ca la t r := by
  obtain ⟨s, h1, h2⟩ := h
  exact ⟨s, h1, by rw [RCs.st hcl hk, wL_ne (Or.inr hr)]; exact h2⟩
theorem RCH.new {G : Gh} {ca la t r k s : Nat} {x : Int64} (hcl : ca ≠ la) (hk : k = 1000 * t + r) (hr : r < 1000) (hs : s ≤ r) (h : RCs G ca la t r s = x) : RCH (wL G la k x) ca la t r := by
  subst hk
  exact ⟨s, hs, by rw [RCs.st hcl (by omega), wL_at]; exact h⟩
set_option maxHeartbeats 4000000 in
set_option maxRecDepth 100000 in
theorem t_X10_packs (l : Launch) (D : va_G) (cy : Nat → ClassId) (base : Nat) (τ : Nat → Nat) (G : Gh) (a : Nat) (h_a : τ a = 11) (vv : Int32) (r_vv : 0 ≤ vv.toInt ∧ vv.toInt ≤ 5) (tha : Nat) (h_tha : τ tha = 68) (e_tha : G.2.2.1 a 18 = some tha) (ca : Nat) (h_ca : τ ca = 86) (e_ca : G.2.2.1 a 36 = some ca) (la : Nat) (h_la : τ la = 87) (e_la : G.2.2.1 a 37 = some la) (va : Nat) (h_va : τ va = 71) (e_va : G.2.2.1 a 21 = some va) (th0 : Int32) (e_th0 : th0 = G.1 tha 0) (r_th0 : 0 ≤ th0.toInt ∧ th0.toInt ≤ 3) : MM l yX10_packs cX10_packs 10 none 3 0 0 D cy [.ref a, .int vv] (PT D cy base τ G) (QT D cy base τ G [79, 86, 87] (fun v g => v = none ∧ ((∀ t9 r9 : Nat, t9 < th0.toInt → r9 ≤ (G.1 va (5 * vv.toInt.toNat + 1)).toInt → RCH g ca la t9 r9)))) (RA base) := by
  refine MM.of (by decide) (Nat.le_of_ble_eq_true rfl) ?_
  intro p e s m below meth c C hPT ls hl
  obtain ⟨hx, hb, hr, hml, hown, hts, hlocks, hK, hnm⟩ := C
  obtain ⟨hZ, hT⟩ := hPT
  have hS : va_S (RA base) s.heap s.heap [] := va_S.rf
  have hF : Fr τ [79, 86, 87] G G := Fr.rf
  have hl : lv_has ls 10 [(0, .ref a), (1, .int vv)] := hl
  refine lv_aload_n hx hb dX10_packs_0 rfl (lv_at hl 0 rfl) ?_
  refine lv_iload_n hx hb dX10_packs_1 rfl (lv_at hl 1 rfl) ?_
  refine t_callv (runV (As := [.int vv]) (rest := []) ⟨hx, hb, hml, hown, hts⟩ (t_X10_splits l D cy base τ G a h_a vv ⟨by omega, by omega⟩) sV_X10_302 hK (t_recv cf_11 hK hT h_a) ⟨Nat.le_trans hZ hS.1, hT⟩ ⟨Nat.le_of_ble_eq_true rfl, Nat.le_of_ble_eq_true rfl⟩ rfl hl.1 rfl (Nat.le_of_ble_eq_true rfl) dX10_packs_2 ⟨Nat.le_of_ble_eq_true rfl, Nat.le_of_ble_eq_true rfl⟩) hS (fun G_1 H locs hF_1 hr_1 hT hS => ?_)
  have hF := hF.tr hF_1 rfl
  refine lv_aload_n hx hb dX10_packs_5 rfl (lv_at hl 0 rfl) ?_
  refine t_getr cf_11 hx hb hts hown hK hT h_a (k := 21) (P := fun q => τ q = 71) rfl (fun _ h9 => h9) fl_X10_46 (fun _ h9 => h9) dX10_packs_6 (fun q_2 eq_2 hq_2 => ?_)
  have w_3 : va = q_2 := Option.some.inj (e_va.symm.trans ((hF.r h_a (by decide) rfl _).symm.trans eq_2))
  subst w_3
  refine lv_iconst (v := 5) hx hb dX10_packs_9 (by decide) ?_
  refine lv_iload_n hx hb dX10_packs_10 rfl (lv_at hl 1 rfl) ?_
  refine lv_imul hx hb dX10_packs_11 ?_
  refine lv_topi (fun z_4 ez_4 => ?_)
  have tz_4 : z_4.toInt = 5 * vv.toInt := mul_t ez_4 (show -2147483648 ≤ 5 * vv.toInt by omega) (show 5 * vv.toInt < 2147483648 by omega)
  refine lv_iconst (v := 1) hx hb dX10_packs_12 (by decide) ?_
  refine lv_iadd hx hb dX10_packs_13 ?_
  refine lv_topi (fun z_5 ez_5 => ?_)
  have tz_5 : z_5.toInt = z_4.toInt + 1 := add_t ez_5 (show -2147483648 ≤ z_4.toInt + 1 by omega) (show z_4.toInt + 1 < 2147483648 by omega)
  refine t_iald (n := 150) (i := z_5) rfl (by decide) hx hb hK hT h_va (hT.len h_va (by decide)) ⟨by omega, by omega⟩ dX10_packs_14 (fun z_6 ez_6 rz_6 => ?_)
  have ez_6 : z_6 = G.1 va z_5.toNatClampNeg := ez_6.trans (hF.i h_va (by decide) rfl _)
  have qz_6 : (z_5.toInt.toNat % 5 = 1 → 0 ≤ z_6.toInt ∧ z_6.toInt ≤ 999) ∧ (z_5.toInt.toNat % 5 = 2 → 0 ≤ z_6.toInt ∧ z_6.toInt ≤ 9) ∧ (z_5.toInt.toNat % 5 = 3 → 0 ≤ z_6.toInt ∧ z_6.toInt ≤ 9) ∧ (z_5.toInt.toNat % 5 = 4 → 0 ≤ z_6.toInt ∧ z_6.toInt ≤ 9) := rz_6
  have rz_6 : 0 ≤ z_6.toInt ∧ z_6.toInt ≤ 999 := by omega
  have hrm : (G.1 va (5 * vv.toInt.toNat + 1)) = z_6 := by rw [ez_6, show z_5.toNatClampNeg = 5 * vv.toInt.toNat + 1 from (show z_5.toInt.toNat = _ by omega)]
  refine lv_istore_n (lv' := [(2, .int z_6), (0, .ref a), (1, .int vv)]) hx hb dX10_packs_15 rfl hl (by decide) rfl (fun ls hl => ?_)
  refine lv_iconst (v := 0) hx hb dX10_packs_16 (by decide) ?_
  refine lv_istore_n (lv' := [(3, .int 0), (2, .int z_6), (0, .ref a), (1, .int vv)]) hx hb dX10_packs_17 rfl hl (by decide) rfl (fun ls hl => ?_)
  refine W.loop (σ := Int32 × Gh) (fun w7 H locs ls => 0 ≤ w7.1.toInt ∧ w7.1.toInt ≤ 3 ∧ Fr τ [79, 86, 87] G w7.2 ∧ TY D cy base τ w7.2 H ∧ va_S (RA base) s.heap H locs ∧ lv_has ls 10 [(3, .int w7.1), (2, .int z_6), (0, .ref a), (1, .int vv)]) (fun w7 => (3 - w7.1.toInt).toNat) ?_ ((0 : Int32), G_1) _ _ _ ⟨(by show 0 ≤ (0 : Int32).toInt; decide), (by show (0 : Int32).toInt ≤ 3; decide), hF, hT, hS, lv_sub hl [0, 1, 2, 3] rfl⟩
  intro w7 H locs ls hI ih7
  obtain ⟨x7_3, G_7⟩ := w7
  obtain ⟨i7_0, i7_1, hF, hT, hS, hl⟩ := hI
  have i7_0 : 0 ≤ x7_3.toInt := i7_0
  have i7_1 : x7_3.toInt ≤ 3 := i7_1
  have hF : Fr τ [79, 86, 87] G G_7 := hF
  have hT : TY D cy base τ G_7 H := hT
  have hS : va_S (RA base) s.heap H locs := hS
  have hl : lv_has ls 10 [(3, .int x7_3), (2, .int z_6), (0, .ref a), (1, .int vv)] := hl
  refine lv_iload_n hx hb dX10_packs_18 rfl (lv_at hl 0 rfl) ?_
  refine lv_aload_n hx hb dX10_packs_19 rfl (lv_at hl 2 rfl) ?_
  refine t_getr cf_11 hx hb hts hown hK hT h_a (k := 18) (P := fun q => τ q = 68) rfl (fun _ h9 => h9) fl_X10_37 (fun _ h9 => h9) dX10_packs_20 (fun q_8 eq_8 hq_8 => ?_)
  have w_9 : tha = q_8 := Option.some.inj (e_tha.symm.trans ((hF.r h_a (by decide) rfl _).symm.trans eq_8))
  subst w_9
  refine lv_iconst (v := 0) hx hb dX10_packs_23 (by decide) ?_
  refine t_iald (n := 5) (i := 0) rfl (by decide) hx hb hK hT h_tha (hT.len h_tha (by decide)) ⟨by decide, by decide⟩ dX10_packs_24 (fun z_10 ez_10 rz_10 => ?_)
  have w_11 : th0 = z_10 := e_th0.trans (ez_10.trans (hF.i h_tha (by decide) rfl _)).symm
  subst w_11
  refine lv_icmp_ge (tgt := 72) hx hb dX10_packs_25 (by decide) (fun c_12 => ?_) (fun c_12 => ?_)
  · skip
    have tc_12 : th0.toInt ≤ x7_3.toInt := (fa_le _ _).mp c_12
    refine lv_iconst (v := 0) hx hb dX10_packs_72 (by decide) ?_
    refine lv_istore_n (lv' := [(3, .int 0), (2, .int z_6), (0, .ref a), (1, .int vv)]) hx hb dX10_packs_73 rfl hl (by decide) rfl (fun ls hl => ?_)
    refine W.loop (σ := Int32 × Gh) (fun w13 H locs ls => 0 ≤ w13.1.toInt ∧ w13.1.toInt ≤ 1000 ∧ Fr τ [79, 86, 87] G w13.2 ∧ TY D cy base τ w13.2 H ∧ va_S (RA base) s.heap H locs ∧ lv_has ls 10 [(3, .int w13.1), (2, .int z_6), (0, .ref a), (1, .int vv)]) (fun w13 => (1000 - w13.1.toInt).toNat) ?_ ((0 : Int32), G_7) _ _ _ ⟨(by show 0 ≤ (0 : Int32).toInt; decide), (by show (0 : Int32).toInt ≤ 1000; decide), hF, hT, hS, lv_sub hl [0, 1, 2, 3] rfl⟩
    intro w13 H locs ls hI ih13
    obtain ⟨x13_3, G_13⟩ := w13
    obtain ⟨i13_0, i13_1, hF, hT, hS, hl⟩ := hI
    have i13_0 : 0 ≤ x13_3.toInt := i13_0
    have i13_1 : x13_3.toInt ≤ 1000 := i13_1
    have hF : Fr τ [79, 86, 87] G G_13 := hF
    have hT : TY D cy base τ G_13 H := hT
    have hS : va_S (RA base) s.heap H locs := hS
    have hl : lv_has ls 10 [(3, .int x13_3), (2, .int z_6), (0, .ref a), (1, .int vv)] := hl
    refine lv_iload_n hx hb dX10_packs_74 rfl (lv_at hl 0 rfl) ?_
    refine lv_iload_n hx hb dX10_packs_75 rfl (lv_at hl 1 rfl) ?_
    refine lv_icmp_gt (tgt := 103) hx hb dX10_packs_76 (by decide) (fun c_14 => ?_) (fun c_14 => ?_)
    · skip
      have tc_14 : z_6.toInt < x13_3.toInt := (fa_lt _ _).mp c_14
      refine lv_aload_n hx hb dX10_packs_103 rfl (lv_at hl 2 rfl) ?_
      refine t_getr cf_11 hx hb hts hown hK hT h_a (k := 18) (P := fun q => τ q = 68) rfl (fun _ h9 => h9) fl_X10_37 (fun _ h9 => h9) dX10_packs_104 (fun q_15 eq_15 hq_15 => ?_)
      have w_16 : tha = q_15 := Option.some.inj (e_tha.symm.trans ((hF.r h_a (by decide) rfl _).symm.trans eq_15))
      subst w_16
      refine lv_iconst (v := 0) hx hb dX10_packs_107 (by decide) ?_
      refine t_iald (n := 5) (i := 0) rfl (by decide) hx hb hK hT h_tha (hT.len h_tha (by decide)) ⟨by decide, by decide⟩ dX10_packs_108 (fun z_17 ez_17 rz_17 => ?_)
      have w_18 : th0 = z_17 := e_th0.trans (ez_17.trans (hF.i h_tha (by decide) rfl _)).symm
      subst w_18
      refine lv_iconst (v := 1) hx hb dX10_packs_109 (by decide) ?_
      refine lv_isub hx hb dX10_packs_110 ?_
      refine lv_topi (fun z_19 ez_19 => ?_)
      have tz_19 : z_19.toInt = th0.toInt - 1 := sub_t ez_19 (show -2147483648 ≤ th0.toInt - 1 by omega) (show th0.toInt - 1 < 2147483648 by omega)
      refine lv_istore_n (lv' := [(3, .int z_19), (2, .int z_6), (0, .ref a), (1, .int vv)]) hx hb dX10_packs_111 rfl hl (by decide) rfl (fun ls hl => ?_)
      refine W.loop (σ := Int32 × Gh) (fun w20 H locs ls => -1 ≤ w20.1.toInt ∧ w20.1.toInt ≤ 2 ∧ (∀ t9 r9 : Nat, w20.1.toInt < t9 → t9 < th0.toInt → r9 ≤ z_6.toInt → RCH w20.2 ca la t9 r9) ∧ Fr τ [79, 86, 87] G w20.2 ∧ TY D cy base τ w20.2 H ∧ va_S (RA base) s.heap H locs ∧ lv_has ls 10 [(3, .int w20.1), (2, .int z_6), (0, .ref a), (1, .int vv)]) (fun w20 => (w20.1.toInt + 1).toNat) ?_ (z_19, G_13) _ _ _ ⟨(by show -1 ≤ z_19.toInt; omega), (by show z_19.toInt ≤ 2; omega), (by show ∀ t9 r9 : Nat, z_19.toInt < t9 → t9 < th0.toInt → r9 ≤ z_6.toInt → RCH G_13 ca la t9 r9; intro t9 r9 q1 q2 q3; exfalso; omega), hF, hT, hS, lv_sub hl [0, 1, 2, 3] rfl⟩
      intro w20 H locs ls hI ih20
      obtain ⟨x20_3, G_20⟩ := w20
      obtain ⟨i20_0, i20_1, i20_2, hF, hT, hS, hl⟩ := hI
      have i20_0 : -1 ≤ x20_3.toInt := i20_0
      have i20_1 : x20_3.toInt ≤ 2 := i20_1
      have i20_2 : (∀ t9 r9 : Nat, x20_3.toInt < t9 → t9 < th0.toInt → r9 ≤ z_6.toInt → RCH G_20 ca la t9 r9) := i20_2
      have hF : Fr τ [79, 86, 87] G G_20 := hF
      have hT : TY D cy base τ G_20 H := hT
      have hS : va_S (RA base) s.heap H locs := hS
      have hl : lv_has ls 10 [(3, .int x20_3), (2, .int z_6), (0, .ref a), (1, .int vv)] := hl
      refine lv_iload_n hx hb dX10_packs_112 rfl (lv_at hl 0 rfl) ?_
      refine lv_if_lt (tgt := 247) hx hb dX10_packs_113 (by decide) (fun c_21 => ?_) (fun c_21 => ?_)
      · skip
        have tc_21 : x20_3.toInt < 0 := (fa_lt _ _).mp c_21
        exact ret_v hx hb hr hlocks ⟨⟨hS.1, hS.2.1⟩, G_20, hF, ⟨rfl, (fun t9 r9 q1 q2 => i20_2 t9 r9 (by omega) q1 (by rw [hrm] at q2; exact q2))⟩, hT⟩ hS.2.2 (Nat.le_of_ble_eq_true rfl) (Nat.le_of_ble_eq_true rfl) dX10_packs_247
      · skip
        have tc_21 : ¬ x20_3.toInt < 0 := fun h => c_21 ((fa_lt _ _).mpr h)
        refine lv_iconst (v := 0) hx hb dX10_packs_116 (by decide) ?_
        refine lv_istore (lv' := [(4, .int 0), (3, .int x20_3), (2, .int z_6), (0, .ref a), (1, .int vv)]) hx hb dX10_packs_117 hl (by decide) rfl (fun ls hl => ?_)
        refine W.loop (σ := Int32 × Gh) (fun w22 H locs ls => 0 ≤ w22.1.toInt ∧ w22.1.toInt ≤ 1000 ∧ (∀ t9 r9 : Nat, x20_3.toInt < t9 → t9 < th0.toInt → r9 ≤ z_6.toInt → RCH w22.2 ca la t9 r9) ∧ (∀ r9 : Nat, r9 < w22.1.toInt → RCH w22.2 ca la x20_3.toInt.toNat r9) ∧ Fr τ [79, 86, 87] G w22.2 ∧ TY D cy base τ w22.2 H ∧ va_S (RA base) s.heap H locs ∧ lv_has ls 10 [(4, .int w22.1), (3, .int x20_3), (2, .int z_6), (0, .ref a), (1, .int vv)]) (fun w22 => (1000 - w22.1.toInt).toNat) ?_ ((0 : Int32), G_20) _ _ _ ⟨(by show 0 ≤ (0 : Int32).toInt; decide), (by show (0 : Int32).toInt ≤ 1000; decide), (by show ∀ t9 r9 : Nat, x20_3.toInt < t9 → t9 < th0.toInt → r9 ≤ z_6.toInt → RCH G_20 ca la t9 r9; exact i20_2), (by show ∀ r9 : Nat, r9 < (0 : Int) → RCH G_20 ca la x20_3.toInt.toNat r9; intro r9 q1; exfalso; omega), hF, hT, hS, lv_sub hl [0, 1, 2, 3, 4] rfl⟩
        intro w22 H locs ls hI ih22
        obtain ⟨x22_4, G_22⟩ := w22
        obtain ⟨i22_0, i22_1, i22_2, i22_3, hF, hT, hS, hl⟩ := hI
        have i22_0 : 0 ≤ x22_4.toInt := i22_0
        have i22_1 : x22_4.toInt ≤ 1000 := i22_1
        have i22_2 : (∀ t9 r9 : Nat, x20_3.toInt < t9 → t9 < th0.toInt → r9 ≤ z_6.toInt → RCH G_22 ca la t9 r9) := i22_2
        have i22_3 : (∀ r9 : Nat, r9 < x22_4.toInt → RCH G_22 ca la x20_3.toInt.toNat r9) := i22_3
        have hF : Fr τ [79, 86, 87] G G_22 := hF
        have hT : TY D cy base τ G_22 H := hT
        have hS : va_S (RA base) s.heap H locs := hS
        have hl : lv_has ls 10 [(4, .int x22_4), (3, .int x20_3), (2, .int z_6), (0, .ref a), (1, .int vv)] := hl
        refine lv_iload hx hb dX10_packs_119 (lv_at hl 0 rfl) ?_
        refine lv_iload_n hx hb dX10_packs_121 rfl (lv_at hl 2 rfl) ?_
        refine lv_icmp_gt (tgt := 241) hx hb dX10_packs_122 (by decide) (fun c_23 => ?_) (fun c_23 => ?_)
        · skip
          have tc_23 : z_6.toInt < x22_4.toInt := (fa_lt _ _).mp c_23
          obtain ⟨z_24, ez_24⟩ : ∃ y : Int32, y = x20_3 + (-1) := ⟨_, rfl⟩
          have tz_24 : z_24.toInt = x20_3.toInt + -1 := add_t ez_24 (show -2147483648 ≤ x20_3.toInt + -1 by omega) (show x20_3.toInt + -1 < 2147483648 by omega)
          refine lv_iinc (v := z_24) (lv' := [(3, .int z_24), (4, .int x22_4), (2, .int z_6), (0, .ref a), (1, .int vv)]) hx hb dX10_packs_241 hl (k := 1) rfl (by rw [ez_24]; rfl) (by decide) rfl (fun ls hl => ?_)
          refine lv_goto (tgt := 112) hx hb dX10_packs_244 (by decide) ?_
          exact ih20 (z_24, G_22) _ _ _ (by show (z_24.toInt + 1).toNat < (x20_3.toInt + 1).toNat; omega) ⟨(by show -1 ≤ z_24.toInt; omega), (by show z_24.toInt ≤ 2; omega), by show ∀ t9 r9 : Nat, z_24.toInt < t9 → t9 < th0.toInt → r9 ≤ z_6.toInt → RCH G_22 ca la t9 r9; intro t9 r9 q1 q2 q3; exact (Classical.em (t9 = x20_3.toInt.toNat)).elim (fun h9 => by rw [h9]; exact i22_3 r9 (by omega)) (fun h9 => i22_2 t9 r9 (by omega) q2 q3), hF, hT, hS, lv_sub hl [0, 2, 3, 4] rfl⟩
        · skip
          have tc_23 : ¬ z_6.toInt < x22_4.toInt := fun h => c_23 ((fa_lt _ _).mpr h)
          refine lv_aload_n hx hb dX10_packs_125 rfl (lv_at hl 3 rfl) ?_
          refine t_getr cf_11 hx hb hts hown hK hT h_a (k := 36) (P := fun q => τ q = 86) rfl (fun _ h9 => h9) fl_X10_92 (fun _ h9 => h9) dX10_packs_126 (fun q_25 eq_25 hq_25 => ?_)
          have w_26 : ca = q_25 := Option.some.inj (e_ca.symm.trans ((hF.r h_a (by decide) rfl _).symm.trans eq_25))
          subst w_26
          refine lv_sipush (v := 1000) hx hb dX10_packs_129 (by decide) ?_
          refine lv_iload_n hx hb dX10_packs_132 rfl (lv_at hl 1 rfl) ?_
          refine lv_imul hx hb dX10_packs_133 ?_
          refine lv_topi (fun z_27 ez_27 => ?_)
          have tz_27 : z_27.toInt = 1000 * x20_3.toInt := mul_t ez_27 (show -2147483648 ≤ 1000 * x20_3.toInt by omega) (show 1000 * x20_3.toInt < 2147483648 by omega)
          refine t_lald (n := 3000) (i := z_27) rfl (by decide) hx hb hK hT h_ca (hT.len h_ca (by decide)) ⟨by omega, by omega⟩ dX10_packs_134 (fun z_28 ez_28 => ?_)
          refine lv_aload_n hx hb dX10_packs_135 rfl (lv_at hl 3 rfl) ?_
          refine t_getr cf_11 hx hb hts hown hK hT h_a (k := 37) (P := fun q => τ q = 87) rfl (fun _ h9 => h9) fl_X10_95 (fun _ h9 => h9) dX10_packs_136 (fun q_29 eq_29 hq_29 => ?_)
          have w_30 : la = q_29 := Option.some.inj (e_la.symm.trans ((hF.r h_a (by decide) rfl _).symm.trans eq_29))
          subst w_30
          refine lv_sipush (v := 1000) hx hb dX10_packs_139 (by decide) ?_
          refine lv_iload_n hx hb dX10_packs_142 rfl (lv_at hl 1 rfl) ?_
          refine lv_iconst (v := 1) hx hb dX10_packs_143 (by decide) ?_
          refine lv_iadd hx hb dX10_packs_144 ?_
          refine lv_topi (fun z_31 ez_31 => ?_)
          have tz_31 : z_31.toInt = x20_3.toInt + 1 := add_t ez_31 (show -2147483648 ≤ x20_3.toInt + 1 by omega) (show x20_3.toInt + 1 < 2147483648 by omega)
          refine lv_imul hx hb dX10_packs_145 ?_
          refine lv_topi (fun z_32 ez_32 => ?_)
          have tz_32 : z_32.toInt = 1000 * z_31.toInt := mul_t ez_32 (show -2147483648 ≤ 1000 * z_31.toInt by omega) (show 1000 * z_31.toInt < 2147483648 by omega)
          refine lv_iload hx hb dX10_packs_146 (lv_at hl 0 rfl) ?_
          refine lv_iadd hx hb dX10_packs_148 ?_
          refine lv_topi (fun z_33 ez_33 => ?_)
          have tz_33 : z_33.toInt = z_32.toInt + x22_4.toInt := add_t ez_33 (show -2147483648 ≤ z_32.toInt + x22_4.toInt by omega) (show z_32.toInt + x22_4.toInt < 2147483648 by omega)
          refine t_lald (n := 4000) (i := z_33) rfl (by decide) hx hb hK hT h_la (hT.len h_la (by decide)) ⟨by omega, by omega⟩ dX10_packs_149 (fun z_34 ez_34 => ?_)
          refine lv_ladd hx hb dX10_packs_150 ?_
          refine lv_topl (fun z_35 ez_35 => ?_)
          refine lv_lstore (lv' := [(5, .long z_35), (4, .int x22_4), (3, .int x20_3), (2, .int z_6), (0, .ref a), (1, .int vv)]) hx hb dX10_packs_151 hl (by decide) rfl (fun ls hl => ?_)
          refine lv_iconst (v := 1) hx hb dX10_packs_153 (by decide) ?_
          refine lv_istore (lv' := [(7, .int 1), (5, .long z_35), (4, .int x22_4), (3, .int x20_3), (2, .int z_6), (0, .ref a), (1, .int vv)]) hx hb dX10_packs_154 hl (by decide) rfl (fun ls hl => ?_)
          refine W.loop (σ := Int64 × Int32 × Gh) (fun w36 H locs ls => 1 ≤ w36.2.1.toInt ∧ w36.2.1.toInt ≤ 1000 ∧ (∀ t9 r9 : Nat, x20_3.toInt < t9 → t9 < th0.toInt → r9 ≤ z_6.toInt → RCH w36.2.2 ca la t9 r9) ∧ (∀ r9 : Nat, r9 < x22_4.toInt → RCH w36.2.2 ca la x20_3.toInt.toNat r9) ∧ (∃ s9 : Nat, s9 < w36.2.1.toInt ∧ s9 ≤ x22_4.toInt ∧ RCs w36.2.2 ca la x20_3.toInt.toNat x22_4.toInt.toNat s9 = w36.1) ∧ Fr τ [79, 86, 87] G w36.2.2 ∧ TY D cy base τ w36.2.2 H ∧ va_S (RA base) s.heap H locs ∧ lv_has ls 10 [(5, .long w36.1), (7, .int w36.2.1), (4, .int x22_4), (3, .int x20_3), (2, .int z_6), (0, .ref a), (1, .int vv)]) (fun w36 => (1000 - w36.2.1.toInt).toNat) ?_ (z_35, (1 : Int32), G_22) _ _ _ ⟨(by show 1 ≤ (1 : Int32).toInt; decide), (by show (1 : Int32).toInt ≤ 1000; decide), (by show ∀ t9 r9 : Nat, x20_3.toInt < t9 → t9 < th0.toInt → r9 ≤ z_6.toInt → RCH G_22 ca la t9 r9; exact i22_2), (by show ∀ r9 : Nat, r9 < x22_4.toInt → RCH G_22 ca la x20_3.toInt.toNat r9; exact i22_3), (by show ∃ s9 : Nat, s9 < (1 : Int) ∧ s9 ≤ x22_4.toInt ∧ RCs G_22 ca la x20_3.toInt.toNat x22_4.toInt.toNat s9 = z_35; exact ⟨0, by decide, by omega, rcs_of ez_28 ez_34 ez_35 (show z_27.toInt.toNat = 1000 * x20_3.toInt.toNat + 0 from by omega) (show z_33.toInt.toNat = 1000 * (x20_3.toInt.toNat + 1) + (x22_4.toInt.toNat - 0) from by omega)⟩), hF, hT, hS, lv_sub hl [1, 0, 2, 3, 4, 5, 6] rfl⟩
          intro w36 H locs ls hI ih36
          obtain ⟨x36_5, x36_7, G_36⟩ := w36
          obtain ⟨i36_0, i36_1, i36_2, i36_3, i36_4, hF, hT, hS, hl⟩ := hI
          have i36_0 : 1 ≤ x36_7.toInt := i36_0
          have i36_1 : x36_7.toInt ≤ 1000 := i36_1
          have i36_2 : (∀ t9 r9 : Nat, x20_3.toInt < t9 → t9 < th0.toInt → r9 ≤ z_6.toInt → RCH G_36 ca la t9 r9) := i36_2
          have i36_3 : (∀ r9 : Nat, r9 < x22_4.toInt → RCH G_36 ca la x20_3.toInt.toNat r9) := i36_3
          have i36_4 : (∃ s9 : Nat, s9 < x36_7.toInt ∧ s9 ≤ x22_4.toInt ∧ RCs G_36 ca la x20_3.toInt.toNat x22_4.toInt.toNat s9 = x36_5) := i36_4
          have hF : Fr τ [79, 86, 87] G G_36 := hF
          have hT : TY D cy base τ G_36 H := hT
          have hS : va_S (RA base) s.heap H locs := hS
          have hl : lv_has ls 10 [(5, .long x36_5), (7, .int x36_7), (4, .int x22_4), (3, .int x20_3), (2, .int z_6), (0, .ref a), (1, .int vv)] := hl
          refine lv_iload hx hb dX10_packs_156 (lv_at hl 1 rfl) ?_
          refine lv_iload hx hb dX10_packs_158 (lv_at hl 2 rfl) ?_
          refine lv_icmp_gt (tgt := 220) hx hb dX10_packs_160 (by decide) (fun c_37 => ?_) (fun c_37 => ?_)
          · skip
            have tc_37 : x22_4.toInt < x36_7.toInt := (fa_lt _ _).mp c_37
            refine lv_aload_n hx hb dX10_packs_220 rfl (lv_at hl 5 rfl) ?_
            refine t_getr cf_11 hx hb hts hown hK hT h_a (k := 37) (P := fun q => τ q = 87) rfl (fun _ h9 => h9) fl_X10_95 (fun _ h9 => h9) dX10_packs_221 (fun q_38 eq_38 hq_38 => ?_)
            have w_39 : la = q_38 := Option.some.inj (e_la.symm.trans ((hF.r h_a (by decide) rfl _).symm.trans eq_38))
            subst w_39
            refine lv_sipush (v := 1000) hx hb dX10_packs_224 (by decide) ?_
            refine lv_iload_n hx hb dX10_packs_227 rfl (lv_at hl 3 rfl) ?_
            refine lv_imul hx hb dX10_packs_228 ?_
            refine lv_topi (fun z_40 ez_40 => ?_)
            have w_41 : z_27 = z_40 := ez_27.trans ez_40.symm
            subst w_41
            refine lv_iload hx hb dX10_packs_229 (lv_at hl 2 rfl) ?_
            refine lv_iadd hx hb dX10_packs_231 ?_
            refine lv_topi (fun z_42 ez_42 => ?_)
            have tz_42 : z_42.toInt = z_27.toInt + x22_4.toInt := add_t ez_42 (show -2147483648 ≤ z_27.toInt + x22_4.toInt by omega) (show z_27.toInt + x22_4.toInt < 2147483648 by omega)
            refine lv_lload hx hb dX10_packs_232 (lv_at hl 0 rfl) ?_
            refine t_last (n := 4000) (i := z_42) (x := x36_5) rfl (by decide) hx hb hK hT hS h_la (hT.len h_la (by decide)) ⟨by omega, by omega⟩ dX10_packs_234 (fun H locs G_43 eG_43 hT hS => ?_)
            have hF := hF.wL eG_43 h_la rfl
            obtain ⟨z_44, ez_44⟩ : ∃ y : Int32, y = x22_4 + 1 := ⟨_, rfl⟩
            have tz_44 : z_44.toInt = x22_4.toInt + 1 := add_t ez_44 (show -2147483648 ≤ x22_4.toInt + 1 by omega) (show x22_4.toInt + 1 < 2147483648 by omega)
            refine lv_iinc (v := z_44) (lv' := [(4, .int z_44), (5, .long x36_5), (7, .int x36_7), (3, .int x20_3), (2, .int z_6), (0, .ref a), (1, .int vv)]) hx hb dX10_packs_235 hl (k := 2) rfl (by rw [ez_44]; rfl) (by decide) rfl (fun ls hl => ?_)
            refine lv_goto (tgt := 119) hx hb dX10_packs_238 (by decide) ?_
            exact ih22 (z_44, G_43) _ _ _ (by show (1000 - z_44.toInt).toNat < (1000 - x22_4.toInt).toNat; omega) ⟨(by show 0 ≤ z_44.toInt; omega), (by show z_44.toInt ≤ 1000; omega), by show ∀ t9 r9 : Nat, x20_3.toInt < t9 → t9 < th0.toInt → r9 ≤ z_6.toInt → RCH G_43 ca la t9 r9; have qk : z_42.toNatClampNeg = 1000 * x20_3.toInt.toNat + x22_4.toInt.toNat := (show z_42.toInt.toNat = _ by omega); intro t9 r9 q1 q2 q3; rw [eG_43, qk]; exact (i36_2 t9 r9 q1 q2 q3).st (tag_ne h_la h_ca (by decide)) (by omega) (by omega), by show ∀ r9 : Nat, r9 < z_44.toInt → RCH G_43 ca la x20_3.toInt.toNat r9; have qk : z_42.toNatClampNeg = 1000 * x20_3.toInt.toNat + x22_4.toInt.toNat := (show z_42.toInt.toNat = _ by omega); intro r9 q1; rw [eG_43, qk]; exact (Classical.em (r9 = x22_4.toInt.toNat)).elim (fun h9 => by obtain ⟨s9, p1, p2, p3⟩ := i36_4; rw [h9]; exact RCH.new (tag_ne h_la h_ca (by decide)) rfl (by omega) (by omega) p3) (fun h9 => (i36_3 r9 (by omega)).st (tag_ne h_la h_ca (by decide)) (by omega) (by omega)), hF, hT, hS, lv_sub hl [0, 3, 4, 5, 6] rfl⟩
          · skip
            have tc_37 : ¬ x22_4.toInt < x36_7.toInt := fun h => c_37 ((fa_lt _ _).mpr h)
            refine lv_aload_n hx hb dX10_packs_163 rfl (lv_at hl 5 rfl) ?_
            refine t_getr cf_11 hx hb hts hown hK hT h_a (k := 36) (P := fun q => τ q = 86) rfl (fun _ h9 => h9) fl_X10_92 (fun _ h9 => h9) dX10_packs_164 (fun q_45 eq_45 hq_45 => ?_)
            have w_46 : ca = q_45 := Option.some.inj (e_ca.symm.trans ((hF.r h_a (by decide) rfl _).symm.trans eq_45))
            subst w_46
            refine lv_sipush (v := 1000) hx hb dX10_packs_167 (by decide) ?_
            refine lv_iload_n hx hb dX10_packs_170 rfl (lv_at hl 3 rfl) ?_
            refine lv_imul hx hb dX10_packs_171 ?_
            refine lv_topi (fun z_47 ez_47 => ?_)
            have w_48 : z_27 = z_47 := ez_27.trans ez_47.symm
            subst w_48
            refine lv_iload hx hb dX10_packs_172 (lv_at hl 1 rfl) ?_
            refine lv_iadd hx hb dX10_packs_174 ?_
            refine lv_topi (fun z_49 ez_49 => ?_)
            have tz_49 : z_49.toInt = z_27.toInt + x36_7.toInt := add_t ez_49 (show -2147483648 ≤ z_27.toInt + x36_7.toInt by omega) (show z_27.toInt + x36_7.toInt < 2147483648 by omega)
            refine t_lald (n := 3000) (i := z_49) rfl (by decide) hx hb hK hT h_ca (hT.len h_ca (by decide)) ⟨by omega, by omega⟩ dX10_packs_175 (fun z_50 ez_50 => ?_)
            refine lv_aload_n hx hb dX10_packs_176 rfl (lv_at hl 5 rfl) ?_
            refine t_getr cf_11 hx hb hts hown hK hT h_a (k := 37) (P := fun q => τ q = 87) rfl (fun _ h9 => h9) fl_X10_95 (fun _ h9 => h9) dX10_packs_177 (fun q_51 eq_51 hq_51 => ?_)
            have w_52 : la = q_51 := Option.some.inj (e_la.symm.trans ((hF.r h_a (by decide) rfl _).symm.trans eq_51))
            subst w_52
            refine lv_sipush (v := 1000) hx hb dX10_packs_180 (by decide) ?_
            refine lv_iload_n hx hb dX10_packs_183 rfl (lv_at hl 3 rfl) ?_
            refine lv_iconst (v := 1) hx hb dX10_packs_184 (by decide) ?_
            refine lv_iadd hx hb dX10_packs_185 ?_
            refine lv_topi (fun z_53 ez_53 => ?_)
            have w_54 : z_31 = z_53 := ez_31.trans ez_53.symm
            subst w_54
            refine lv_imul hx hb dX10_packs_186 ?_
            refine lv_topi (fun z_55 ez_55 => ?_)
            have w_56 : z_32 = z_55 := ez_32.trans ez_55.symm
            subst w_56
            refine lv_iload hx hb dX10_packs_187 (lv_at hl 2 rfl) ?_
            refine lv_iadd hx hb dX10_packs_189 ?_
            refine lv_topi (fun z_57 ez_57 => ?_)
            have w_58 : z_33 = z_57 := ez_33.trans ez_57.symm
            subst w_58
            refine lv_iload hx hb dX10_packs_190 (lv_at hl 1 rfl) ?_
            refine lv_isub hx hb dX10_packs_192 ?_
            refine lv_topi (fun z_59 ez_59 => ?_)
            have tz_59 : z_59.toInt = z_33.toInt - x36_7.toInt := sub_t ez_59 (show -2147483648 ≤ z_33.toInt - x36_7.toInt by omega) (show z_33.toInt - x36_7.toInt < 2147483648 by omega)
            refine t_lald (n := 4000) (i := z_59) rfl (by decide) hx hb hK hT h_la (hT.len h_la (by decide)) ⟨by omega, by omega⟩ dX10_packs_193 (fun z_60 ez_60 => ?_)
            refine lv_ladd hx hb dX10_packs_194 ?_
            refine lv_topl (fun z_61 ez_61 => ?_)
            refine lv_lstore (lv' := [(8, .long z_61), (5, .long x36_5), (7, .int x36_7), (4, .int x22_4), (3, .int x20_3), (2, .int z_6), (0, .ref a), (1, .int vv)]) hx hb dX10_packs_195 hl (by decide) rfl (fun ls hl => ?_)
            refine lv_lload hx hb dX10_packs_197 (lv_at hl 0 rfl) ?_
            refine lv_lload hx hb dX10_packs_199 (lv_at hl 1 rfl) ?_
            refine W.lcmp hx hb dX10_packs_201 ?_
            refine lv_topi (fun z_62 ez_62 => ?_)
            have tz_62 : (z_62.toInt < 0 ↔ z_61.toInt < x36_5.toInt) ∧ (0 < z_62.toInt ↔ x36_5.toInt < z_61.toInt) ∧ -1 ≤ z_62.toInt ∧ z_62.toInt ≤ 1 := cmp_t ez_62
            refine lv_if_ge (tgt := 210) hx hb dX10_packs_202 (by decide) (fun c_63 => ?_) (fun c_63 => ?_)
            · skip
              have tc_63 : 0 ≤ z_62.toInt := (fa_le _ _).mp c_63
              refine lv_lload hx hb dX10_packs_210 (lv_at hl 1 rfl) ?_
              refine lv_lstore (lv' := [(5, .long x36_5), (8, .long z_61), (7, .int x36_7), (4, .int x22_4), (3, .int x20_3), (2, .int z_6), (0, .ref a), (1, .int vv)]) hx hb dX10_packs_212 hl (by decide) rfl (fun ls hl => ?_)
              obtain ⟨z_64, ez_64⟩ : ∃ y : Int32, y = x36_7 + 1 := ⟨_, rfl⟩
              have tz_64 : z_64.toInt = x36_7.toInt + 1 := add_t ez_64 (show -2147483648 ≤ x36_7.toInt + 1 by omega) (show x36_7.toInt + 1 < 2147483648 by omega)
              refine lv_iinc (v := z_64) (lv' := [(7, .int z_64), (5, .long x36_5), (8, .long z_61), (4, .int x22_4), (3, .int x20_3), (2, .int z_6), (0, .ref a), (1, .int vv)]) hx hb dX10_packs_214 hl (k := 2) rfl (by rw [ez_64]; rfl) (by decide) rfl (fun ls hl => ?_)
              refine lv_goto (tgt := 156) hx hb dX10_packs_217 (by decide) ?_
              exact ih36 (x36_5, z_64, G_36) _ _ _ (by show (1000 - z_64.toInt).toNat < (1000 - x36_7.toInt).toNat; omega) ⟨(by show 1 ≤ z_64.toInt; omega), (by show z_64.toInt ≤ 1000; omega), by show ∀ t9 r9 : Nat, x20_3.toInt < t9 → t9 < th0.toInt → r9 ≤ z_6.toInt → RCH G_36 ca la t9 r9; exact i36_2, by show ∀ r9 : Nat, r9 < x22_4.toInt → RCH G_36 ca la x20_3.toInt.toNat r9; exact i36_3, by show ∃ s9 : Nat, s9 < z_64.toInt ∧ s9 ≤ x22_4.toInt ∧ RCs G_36 ca la x20_3.toInt.toNat x22_4.toInt.toNat s9 = x36_5; obtain ⟨s9, p1, p2, p3⟩ := i36_4; exact ⟨s9, by omega, p2, p3⟩, hF, hT, hS, lv_sub hl [1, 0, 3, 4, 5, 6, 7] rfl⟩
            · skip
              have tc_63 : ¬ 0 ≤ z_62.toInt := fun h => c_63 ((fa_le _ _).mpr h)
              refine lv_lload hx hb dX10_packs_205 (lv_at hl 0 rfl) ?_
              refine lv_goto (tgt := 212) hx hb dX10_packs_207 (by decide) ?_
              refine lv_lstore (lv' := [(5, .long z_61), (8, .long z_61), (7, .int x36_7), (4, .int x22_4), (3, .int x20_3), (2, .int z_6), (0, .ref a), (1, .int vv)]) hx hb dX10_packs_212 hl (by decide) rfl (fun ls hl => ?_)
              obtain ⟨z_65, ez_65⟩ : ∃ y : Int32, y = x36_7 + 1 := ⟨_, rfl⟩
              have tz_65 : z_65.toInt = x36_7.toInt + 1 := add_t ez_65 (show -2147483648 ≤ x36_7.toInt + 1 by omega) (show x36_7.toInt + 1 < 2147483648 by omega)
              refine lv_iinc (v := z_65) (lv' := [(7, .int z_65), (5, .long z_61), (8, .long z_61), (4, .int x22_4), (3, .int x20_3), (2, .int z_6), (0, .ref a), (1, .int vv)]) hx hb dX10_packs_214 hl (k := 2) rfl (by rw [ez_65]; rfl) (by decide) rfl (fun ls hl => ?_)
              refine lv_goto (tgt := 156) hx hb dX10_packs_217 (by decide) ?_
              exact ih36 (z_61, z_65, G_36) _ _ _ (by show (1000 - z_65.toInt).toNat < (1000 - x36_7.toInt).toNat; omega) ⟨(by show 1 ≤ z_65.toInt; omega), (by show z_65.toInt ≤ 1000; omega), by show ∀ t9 r9 : Nat, x20_3.toInt < t9 → t9 < th0.toInt → r9 ≤ z_6.toInt → RCH G_36 ca la t9 r9; exact i36_2, by show ∀ r9 : Nat, r9 < x22_4.toInt → RCH G_36 ca la x20_3.toInt.toNat r9; exact i36_3, by show ∃ s9 : Nat, s9 < z_65.toInt ∧ s9 ≤ x22_4.toInt ∧ RCs G_36 ca la x20_3.toInt.toNat x22_4.toInt.toNat s9 = z_61; exact ⟨x36_7.toInt.toNat, by omega, by omega, rcs_of ez_50 ez_60 ez_61 (show z_49.toInt.toNat = 1000 * x20_3.toInt.toNat + x36_7.toInt.toNat from by omega) (show z_59.toInt.toNat = 1000 * (x20_3.toInt.toNat + 1) + (x22_4.toInt.toNat - x36_7.toInt.toNat) from by omega)⟩, hF, hT, hS, lv_sub hl [1, 0, 3, 4, 5, 6, 7] rfl⟩
    · skip
      have tc_14 : ¬ z_6.toInt < x13_3.toInt := fun h => c_14 ((fa_lt _ _).mpr h)
      refine lv_aload_n hx hb dX10_packs_79 rfl (lv_at hl 2 rfl) ?_
      refine t_getr cf_11 hx hb hts hown hK hT h_a (k := 37) (P := fun q => τ q = 87) rfl (fun _ h9 => h9) fl_X10_95 (fun _ h9 => h9) dX10_packs_80 (fun q_66 eq_66 hq_66 => ?_)
      have w_67 : la = q_66 := Option.some.inj (e_la.symm.trans ((hF.r h_a (by decide) rfl _).symm.trans eq_66))
      subst w_67
      refine lv_sipush (v := 1000) hx hb dX10_packs_83 (by decide) ?_
      refine lv_aload_n hx hb dX10_packs_86 rfl (lv_at hl 2 rfl) ?_
      refine t_getr cf_11 hx hb hts hown hK hT h_a (k := 18) (P := fun q => τ q = 68) rfl (fun _ h9 => h9) fl_X10_37 (fun _ h9 => h9) dX10_packs_87 (fun q_68 eq_68 hq_68 => ?_)
      have w_69 : tha = q_68 := Option.some.inj (e_tha.symm.trans ((hF.r h_a (by decide) rfl _).symm.trans eq_68))
      subst w_69
      refine lv_iconst (v := 0) hx hb dX10_packs_90 (by decide) ?_
      refine t_iald (n := 5) (i := 0) rfl (by decide) hx hb hK hT h_tha (hT.len h_tha (by decide)) ⟨by decide, by decide⟩ dX10_packs_91 (fun z_70 ez_70 rz_70 => ?_)
      have w_71 : th0 = z_70 := e_th0.trans (ez_70.trans (hF.i h_tha (by decide) rfl _)).symm
      subst w_71
      refine lv_imul hx hb dX10_packs_92 ?_
      refine lv_topi (fun z_72 ez_72 => ?_)
      have tz_72 : z_72.toInt = 1000 * th0.toInt := mul_t ez_72 (show -2147483648 ≤ 1000 * th0.toInt by omega) (show 1000 * th0.toInt < 2147483648 by omega)
      refine lv_iload_n hx hb dX10_packs_93 rfl (lv_at hl 0 rfl) ?_
      refine lv_iadd hx hb dX10_packs_94 ?_
      refine lv_topi (fun z_73 ez_73 => ?_)
      have tz_73 : z_73.toInt = z_72.toInt + x13_3.toInt := add_t ez_73 (show -2147483648 ≤ z_72.toInt + x13_3.toInt by omega) (show z_72.toInt + x13_3.toInt < 2147483648 by omega)
      refine lv_lconst (v := 0) hx hb dX10_packs_95 (by decide) ?_
      refine t_last (n := 4000) (i := z_73) (x := 0) rfl (by decide) hx hb hK hT hS h_la (hT.len h_la (by decide)) ⟨by omega, by omega⟩ dX10_packs_96 (fun H locs G_74 eG_74 hT hS => ?_)
      have hF := hF.wL eG_74 h_la rfl
      obtain ⟨z_75, ez_75⟩ : ∃ y : Int32, y = x13_3 + 1 := ⟨_, rfl⟩
      have tz_75 : z_75.toInt = x13_3.toInt + 1 := add_t ez_75 (show -2147483648 ≤ x13_3.toInt + 1 by omega) (show x13_3.toInt + 1 < 2147483648 by omega)
      refine lv_iinc (v := z_75) (lv' := [(3, .int z_75), (2, .int z_6), (0, .ref a), (1, .int vv)]) hx hb dX10_packs_97 hl (k := 0) rfl (by rw [ez_75]; rfl) (by decide) rfl (fun ls hl => ?_)
      refine lv_goto (tgt := 74) hx hb dX10_packs_100 (by decide) ?_
      exact ih13 (z_75, G_74) _ _ _ (by show (1000 - z_75.toInt).toNat < (1000 - x13_3.toInt).toNat; omega) ⟨(by show 0 ≤ z_75.toInt; omega), (by show z_75.toInt ≤ 1000; omega), hF, hT, hS, lv_sub hl [0, 1, 2, 3] rfl⟩
  · skip
    have tc_12 : ¬ th0.toInt ≤ x7_3.toInt := fun h => c_12 ((fa_le _ _).mpr h)
    refine lv_iconst (v := 0) hx hb dX10_packs_28 (by decide) ?_
    refine lv_istore (lv' := [(4, .int 0), (3, .int x7_3), (2, .int z_6), (0, .ref a), (1, .int vv)]) hx hb dX10_packs_29 hl (by decide) rfl (fun ls hl => ?_)
    refine W.loop (σ := Int32 × Gh) (fun w76 H locs ls => 0 ≤ w76.1.toInt ∧ w76.1.toInt ≤ 1000 ∧ Fr τ [79, 86, 87] G w76.2 ∧ TY D cy base τ w76.2 H ∧ va_S (RA base) s.heap H locs ∧ lv_has ls 10 [(4, .int w76.1), (3, .int x7_3), (2, .int z_6), (0, .ref a), (1, .int vv)]) (fun w76 => (1000 - w76.1.toInt).toNat) ?_ ((0 : Int32), G_7) _ _ _ ⟨(by show 0 ≤ (0 : Int32).toInt; decide), (by show (0 : Int32).toInt ≤ 1000; decide), hF, hT, hS, lv_sub hl [0, 1, 2, 3, 4] rfl⟩
    intro w76 H locs ls hI ih76
    obtain ⟨x76_4, G_76⟩ := w76
    obtain ⟨i76_0, i76_1, hF, hT, hS, hl⟩ := hI
    have i76_0 : 0 ≤ x76_4.toInt := i76_0
    have i76_1 : x76_4.toInt ≤ 1000 := i76_1
    have hF : Fr τ [79, 86, 87] G G_76 := hF
    have hT : TY D cy base τ G_76 H := hT
    have hS : va_S (RA base) s.heap H locs := hS
    have hl : lv_has ls 10 [(4, .int x76_4), (3, .int x7_3), (2, .int z_6), (0, .ref a), (1, .int vv)] := hl
    refine lv_iload hx hb dX10_packs_31 (lv_at hl 0 rfl) ?_
    refine lv_sipush (v := 999) hx hb dX10_packs_33 (by decide) ?_
    refine lv_icmp_gt (tgt := 66) hx hb dX10_packs_36 (by decide) (fun c_77 => ?_) (fun c_77 => ?_)
    · skip
      have tc_77 : 999 < x76_4.toInt := (fa_lt _ _).mp c_77
      obtain ⟨z_78, ez_78⟩ : ∃ y : Int32, y = x7_3 + 1 := ⟨_, rfl⟩
      have tz_78 : z_78.toInt = x7_3.toInt + 1 := add_t ez_78 (show -2147483648 ≤ x7_3.toInt + 1 by omega) (show x7_3.toInt + 1 < 2147483648 by omega)
      refine lv_iinc (v := z_78) (lv' := [(3, .int z_78), (4, .int x76_4), (2, .int z_6), (0, .ref a), (1, .int vv)]) hx hb dX10_packs_66 hl (k := 1) rfl (by rw [ez_78]; rfl) (by decide) rfl (fun ls hl => ?_)
      refine lv_goto (tgt := 18) hx hb dX10_packs_69 (by decide) ?_
      exact ih7 (z_78, G_76) _ _ _ (by show (3 - z_78.toInt).toNat < (3 - x7_3.toInt).toNat; omega) ⟨(by show 0 ≤ z_78.toInt; omega), (by show z_78.toInt ≤ 3; omega), hF, hT, hS, lv_sub hl [0, 2, 3, 4] rfl⟩
    · skip
      have tc_77 : ¬ 999 < x76_4.toInt := fun h => c_77 ((fa_lt _ _).mpr h)
      refine lv_aload_n hx hb dX10_packs_39 rfl (lv_at hl 3 rfl) ?_
      refine t_getr cf_11 hx hb hts hown hK hT h_a (k := 36) (P := fun q => τ q = 86) rfl (fun _ h9 => h9) fl_X10_92 (fun _ h9 => h9) dX10_packs_40 (fun q_79 eq_79 hq_79 => ?_)
      have w_80 : ca = q_79 := Option.some.inj (e_ca.symm.trans ((hF.r h_a (by decide) rfl _).symm.trans eq_79))
      subst w_80
      refine lv_sipush (v := 1000) hx hb dX10_packs_43 (by decide) ?_
      refine lv_iload_n hx hb dX10_packs_46 rfl (lv_at hl 1 rfl) ?_
      refine lv_imul hx hb dX10_packs_47 ?_
      refine lv_topi (fun z_81 ez_81 => ?_)
      have tz_81 : z_81.toInt = 1000 * x7_3.toInt := mul_t ez_81 (show -2147483648 ≤ 1000 * x7_3.toInt by omega) (show 1000 * x7_3.toInt < 2147483648 by omega)
      refine lv_iload hx hb dX10_packs_48 (lv_at hl 0 rfl) ?_
      refine lv_iadd hx hb dX10_packs_50 ?_
      refine lv_topi (fun z_82 ez_82 => ?_)
      have tz_82 : z_82.toInt = z_81.toInt + x76_4.toInt := add_t ez_82 (show -2147483648 ≤ z_81.toInt + x76_4.toInt by omega) (show z_81.toInt + x76_4.toInt < 2147483648 by omega)
      refine lv_aload_n hx hb dX10_packs_51 rfl (lv_at hl 3 rfl) ?_
      refine lv_iload_n hx hb dX10_packs_52 rfl (lv_at hl 4 rfl) ?_
      refine lv_iload_n hx hb dX10_packs_53 rfl (lv_at hl 1 rfl) ?_
      refine lv_iload hx hb dX10_packs_54 (lv_at hl 0 rfl) ?_
      refine pu_calll (runV (As := [.int vv, .int x7_3, .int x76_4]) (rest := [.int z_82, .ref ca]) ⟨hx, hb, hml, hown, hts⟩ (t_X10_costOf l D cy base τ G_76 a h_a vv ⟨by omega, by omega⟩ x7_3 ⟨by omega, by omega⟩ x76_4) sV_X10_378 hK (t_recv cf_11 hK hT h_a) ⟨Nat.le_trans hZ hS.1, hT⟩ ⟨Nat.le_of_ble_eq_true rfl, Nat.le_of_ble_eq_true rfl⟩ rfl hl.1 rfl (Nat.le_of_ble_eq_true rfl) dX10_packs_56 ⟨Nat.le_of_ble_eq_true rfl, Nat.le_of_ble_eq_true rfl⟩) (fun r_83 hr_83 => ?_)
      refine t_last (n := 3000) (i := z_82) (x := r_83) rfl (by decide) hx hb hK hT hS h_ca (hT.len h_ca (by decide)) ⟨by omega, by omega⟩ dX10_packs_59 (fun H locs G_84 eG_84 hT hS => ?_)
      have hF := hF.wL eG_84 h_ca rfl
      obtain ⟨z_85, ez_85⟩ : ∃ y : Int32, y = x76_4 + 1 := ⟨_, rfl⟩
      have tz_85 : z_85.toInt = x76_4.toInt + 1 := add_t ez_85 (show -2147483648 ≤ x76_4.toInt + 1 by omega) (show x76_4.toInt + 1 < 2147483648 by omega)
      refine lv_iinc (v := z_85) (lv' := [(4, .int z_85), (3, .int x7_3), (2, .int z_6), (0, .ref a), (1, .int vv)]) hx hb dX10_packs_60 hl (k := 0) rfl (by rw [ez_85]; rfl) (by decide) rfl (fun ls hl => ?_)
      refine lv_goto (tgt := 31) hx hb dX10_packs_63 (by decide) ?_
      exact ih76 (z_85, G_84) _ _ _ (by show (1000 - z_85.toInt).toNat < (1000 - x76_4.toInt).toNat; omega) ⟨(by show 0 ≤ z_85.toInt; omega), (by show z_85.toInt ≤ 1000; omega), hF, hT, hS, lv_sub hl [0, 1, 2, 3, 4] rfl⟩
set_option maxHeartbeats 4000000 in
set_option maxRecDepth 100000 in
theorem t_X10_pack (l : Launch) (D : va_G) (cy : Nat → ClassId) (base : Nat) (τ : Nat → Nat) (G : Gh) (a : Nat) (h_a : τ a = 11) (v0 : Int32) (v1 : Int32) (tha : Nat) (h_tha : τ tha = 68) (e_tha : G.2.2.1 a 18 = some tha) (ca : Nat) (h_ca : τ ca = 86) (e_ca : G.2.2.1 a 36 = some ca) (la : Nat) (h_la : τ la = 87) (e_la : G.2.2.1 a 37 = some la) (va : Nat) (h_va : τ va = 71) (e_va : G.2.2.1 a 21 = some va) (th0 : Int32) (e_th0 : th0 = G.1 tha 0) (r_th0 : 0 ≤ th0.toInt ∧ th0.toInt ≤ 3) : MM l yX10_pack cX10_pack 6 (some .int) 4 0 0 D cy [.ref a, .int v0, .int v1] (PT D cy base τ G) (QT D cy base τ G [11, 79, 86, 87] (fun v g => ∃ r : Int32, v = some (.int r) ∧ (True))) (RA base) := by
  refine MM.of (by decide) (Nat.le_of_ble_eq_true rfl) ?_
  intro p e s m below meth c C hPT ls hl
  obtain ⟨hx, hb, hr, hml, hown, hts, hlocks, hK, hnm⟩ := C
  obtain ⟨hZ, hT⟩ := hPT
  have hS : va_S (RA base) s.heap s.heap [] := va_S.rf
  have hF : Fr τ [11, 79, 86, 87] G G := Fr.rf
  have hl : lv_has ls 6 [(0, .ref a), (1, .int v0), (2, .int v1)] := hl
  refine lv_aload_n hx hb dX10_pack_0 rfl (lv_at hl 0 rfl) ?_
  refine lv_iconst (v := 0) hx hb dX10_pack_1 (by decide) ?_
  refine t_puti (x := 0) cf_11 hx hb hts hown hK hT hS h_a (k := 0) rfl trivial fl_X10_111 (fun _ h9 => h9) rfl rfl rfl dX10_pack_2 (fun H locs G_1 eG_1 hT hS => ?_)
  have hF := hF.wI eG_1 h_a rfl
  refine lv_aload_n hx hb dX10_pack_5 rfl (lv_at hl 0 rfl) ?_
  refine lv_iload_n hx hb dX10_pack_6 rfl (lv_at hl 1 rfl) ?_
  refine lv_iload_n hx hb dX10_pack_7 rfl (lv_at hl 2 rfl) ?_
  refine lv_iconst (v := 0) hx hb dX10_pack_8 (by decide) ?_
  refine pu_calli (runV (As := [.int v0, .int v1, .int 0]) (rest := []) ⟨hx, hb, hml, hown, hts⟩ (t_X10_isStore2 l D cy base τ G_1 a h_a v0 v1 0 tha h_tha ((hF.r h_a (by decide) rfl _).trans e_tha) th0 (e_th0.trans (hF.i h_tha (by decide) rfl _).symm) ⟨by omega, by omega⟩) sV_X10_375 hK (t_recv cf_11 hK hT h_a) ⟨Nat.le_trans hZ hS.1, hT⟩ ⟨Nat.le_of_ble_eq_true rfl, Nat.le_of_ble_eq_true rfl⟩ rfl hl.1 rfl (Nat.le_of_ble_eq_true rfl) dX10_pack_9 ⟨Nat.le_of_ble_eq_true rfl, Nat.le_of_ble_eq_true rfl⟩) (fun r_2 hr_2 => ?_)
  have hr_2_c := hr_2
  rcases hr_2_c with hr_2_0 | hr_2_1
  · skip
    obtain ⟨er_2, hr_2_0_f0, hr_2_0_f1, hr_2_0_f2, hr_2_0_f3, hr_2_0_f4, hr_2_0_f5, hr_2_0_f6⟩ := hr_2_0
    have hr_2_0_f0 : 0 ≤ v0.toInt := hr_2_0_f0
    have hr_2_0_f1 : v0.toInt ≤ 5 := hr_2_0_f1
    have hr_2_0_f2 : 0 ≤ v1.toInt := hr_2_0_f2
    have hr_2_0_f3 : v1.toInt ≤ 2 := hr_2_0_f3
    have hr_2_0_f6 : v1.toInt < th0.toInt := hr_2_0_f6
    subst er_2
    refine W.eq (g2 := F0 m 12 ls [.int 1]) rfl ?_
    refine lv_if_ne (tgt := 18) hx hb dX10_pack_12 (by decide) (fun _ => ?_) (fun c_3 => absurd c_3 (by decide))
    refine lv_aload_n hx hb dX10_pack_18 rfl (lv_at hl 0 rfl) ?_
    refine lv_iload_n hx hb dX10_pack_19 rfl (lv_at hl 1 rfl) ?_
    refine t_callv (runV (As := [.int v0]) (rest := []) ⟨hx, hb, hml, hown, hts⟩ (t_X10_packs l D cy base τ G_1 a h_a v0 ⟨by omega, by omega⟩ tha h_tha ((hF.r h_a (by decide) rfl _).trans e_tha) ca h_ca ((hF.r h_a (by decide) rfl _).trans e_ca) la h_la ((hF.r h_a (by decide) rfl _).trans e_la) va h_va ((hF.r h_a (by decide) rfl _).trans e_va) th0 (e_th0.trans (hF.i h_tha (by decide) rfl _).symm) ⟨by omega, by omega⟩) sV_X10_389 hK (t_recv cf_11 hK hT h_a) ⟨Nat.le_trans hZ hS.1, hT⟩ ⟨Nat.le_of_ble_eq_true rfl, Nat.le_of_ble_eq_true rfl⟩ rfl hl.1 rfl (Nat.le_of_ble_eq_true rfl) dX10_pack_20 ⟨Nat.le_of_ble_eq_true rfl, Nat.le_of_ble_eq_true rfl⟩) hS (fun G_4 H locs hF_4 hr_4 hT hS => ?_)
    have hF := hF.tr hF_4 rfl
    have hr_4_p0 := hr_4
    have hr_4_p0 : ∀ t9 r9 : Nat, t9 < th0.toInt → r9 ≤ (G_1.1 va (5 * v0.toInt.toNat + 1)).toInt → RCH G_4 ca la t9 r9 := hr_4_p0
    refine lv_aload_n hx hb dX10_pack_23 rfl (lv_at hl 0 rfl) ?_
    refine t_getr cf_11 hx hb hts hown hK hT h_a (k := 21) (P := fun q => τ q = 71) rfl (fun _ h9 => h9) fl_X10_46 (fun _ h9 => h9) dX10_pack_24 (fun q_5 eq_5 hq_5 => ?_)
    have w_6 : va = q_5 := Option.some.inj (e_va.symm.trans ((hF.r h_a (by decide) rfl _).symm.trans eq_5))
    subst w_6
    refine lv_iconst (v := 5) hx hb dX10_pack_27 (by decide) ?_
    refine lv_iload_n hx hb dX10_pack_28 rfl (lv_at hl 1 rfl) ?_
    refine lv_imul hx hb dX10_pack_29 ?_
    refine lv_topi (fun z_7 ez_7 => ?_)
    have tz_7 : z_7.toInt = 5 * v0.toInt := mul_t ez_7 (show -2147483648 ≤ 5 * v0.toInt by omega) (show 5 * v0.toInt < 2147483648 by omega)
    refine lv_iconst (v := 1) hx hb dX10_pack_30 (by decide) ?_
    refine lv_iadd hx hb dX10_pack_31 ?_
    refine lv_topi (fun z_8 ez_8 => ?_)
    have tz_8 : z_8.toInt = z_7.toInt + 1 := add_t ez_8 (show -2147483648 ≤ z_7.toInt + 1 by omega) (show z_7.toInt + 1 < 2147483648 by omega)
    refine t_iald (n := 150) (i := z_8) rfl (by decide) hx hb hK hT h_va (hT.len h_va (by decide)) ⟨by omega, by omega⟩ dX10_pack_32 (fun z_9 ez_9 rz_9 => ?_)
    have ez_9 : z_9 = G.1 va z_8.toNatClampNeg := ez_9.trans (hF.i h_va (by decide) rfl _)
    have qz_9 : (z_8.toInt.toNat % 5 = 1 → 0 ≤ z_9.toInt ∧ z_9.toInt ≤ 999) ∧ (z_8.toInt.toNat % 5 = 2 → 0 ≤ z_9.toInt ∧ z_9.toInt ≤ 9) ∧ (z_8.toInt.toNat % 5 = 3 → 0 ≤ z_9.toInt ∧ z_9.toInt ≤ 9) ∧ (z_8.toInt.toNat % 5 = 4 → 0 ≤ z_9.toInt ∧ z_9.toInt ≤ 9) := rz_9
    have rz_9 : 0 ≤ z_9.toInt ∧ z_9.toInt ≤ 999 := by omega
    obtain ⟨rm9, erm9⟩ : ∃ y : Int32, y = z_9 := ⟨_, rfl⟩
    have trm9 : rm9.toInt = z_9.toInt := by rw [erm9]
    have hrm : G_1.1 va (5 * v0.toInt.toNat + 1) = z_9 := (hF_4.i h_va (by decide) rfl _).symm.trans ((hF.i h_va (by decide) rfl _).trans (by rw [ez_9, show z_8.toNatClampNeg = 5 * v0.toInt.toNat + 1 from (show z_8.toInt.toNat = _ by omega)]))
    have hRC : ∀ t9 r9 : Nat, t9 < th0.toInt → r9 ≤ rm9.toInt → RCH G_4 ca la t9 r9 := fun t9 r9 q1 q2 => hr_4_p0 t9 r9 q1 (by rw [hrm]; omega)
    refine lv_istore_n (lv' := [(3, .int z_9), (0, .ref a), (1, .int v0), (2, .int v1)]) hx hb dX10_pack_33 rfl hl (by decide) rfl (fun ls hl => ?_)
    refine lv_iconst (v := 0) hx hb dX10_pack_34 (by decide) ?_
    refine lv_istore (lv' := [(4, .int 0), (3, .int z_9), (0, .ref a), (1, .int v0), (2, .int v1)]) hx hb dX10_pack_35 hl (by decide) rfl (fun ls hl => ?_)
    refine lv_iconst (v := 0) hx hb dX10_pack_37 (by decide) ?_
    refine lv_istore (lv' := [(5, .int 0), (4, .int 0), (3, .int z_9), (0, .ref a), (1, .int v0), (2, .int v1)]) hx hb dX10_pack_38 hl (by decide) rfl (fun ls hl => ?_)
    refine W.loop (σ := Int32 × Int32 × Int32 × Gh) (fun w10 H locs ls => 0 ≤ w10.1.toInt ∧ w10.1.toInt ≤ 999 ∧ 0 ≤ w10.2.1.toInt ∧ w10.2.1.toInt ≤ 999 ∧ 0 ≤ w10.2.2.1.toInt ∧ w10.2.2.1.toInt ≤ 3 ∧ (∀ t9 r9 : Nat, t9 < th0.toInt → r9 ≤ rm9.toInt → RCH w10.2.2.2 ca la t9 r9) ∧ (w10.1.toInt ≤ rm9.toInt) ∧ Fr τ [11, 79, 86, 87] G w10.2.2.2 ∧ TY D cy base τ w10.2.2.2 H ∧ va_S (RA base) s.heap H locs ∧ lv_has ls 6 [(3, .int w10.1), (4, .int w10.2.1), (5, .int w10.2.2.1), (0, .ref a), (1, .int v0), (2, .int v1)]) (fun w10 => (3 - w10.2.2.1.toInt).toNat) ?_ (z_9, (0 : Int32), (0 : Int32), G_4) _ _ _ ⟨(by show 0 ≤ z_9.toInt; omega), (by show z_9.toInt ≤ 999; omega), (by show 0 ≤ (0 : Int32).toInt; decide), (by show (0 : Int32).toInt ≤ 999; decide), (by show 0 ≤ (0 : Int32).toInt; decide), (by show (0 : Int32).toInt ≤ 3; decide), (by show ∀ t9 r9 : Nat, t9 < th0.toInt → r9 ≤ rm9.toInt → RCH G_4 ca la t9 r9; exact hRC), (by show z_9.toInt ≤ rm9.toInt; first | omega | assumption | exact rfl), hF, hT, hS, lv_sub hl [2, 1, 0, 3, 4, 5] rfl⟩
    intro w10 H locs ls hI ih10
    obtain ⟨x10_3, x10_4, x10_5, G_10⟩ := w10
    obtain ⟨i10_0, i10_1, i10_2, i10_3, i10_4, i10_5, i10_6, i10_7, hF, hT, hS, hl⟩ := hI
    have i10_0 : 0 ≤ x10_3.toInt := i10_0
    have i10_1 : x10_3.toInt ≤ 999 := i10_1
    have i10_2 : 0 ≤ x10_4.toInt := i10_2
    have i10_3 : x10_4.toInt ≤ 999 := i10_3
    have i10_4 : 0 ≤ x10_5.toInt := i10_4
    have i10_5 : x10_5.toInt ≤ 3 := i10_5
    have i10_6 : (∀ t9 r9 : Nat, t9 < th0.toInt → r9 ≤ rm9.toInt → RCH G_10 ca la t9 r9) := i10_6
    have i10_7 : (x10_3.toInt ≤ rm9.toInt) := i10_7
    have hF : Fr τ [11, 79, 86, 87] G G_10 := hF
    have hT : TY D cy base τ G_10 H := hT
    have hS : va_S (RA base) s.heap H locs := hS
    have hl : lv_has ls 6 [(3, .int x10_3), (4, .int x10_4), (5, .int x10_5), (0, .ref a), (1, .int v0), (2, .int v1)] := hl
    refine lv_iload hx hb dX10_pack_40 (lv_at hl 2 rfl) ?_
    refine lv_iload_n hx hb dX10_pack_42 rfl (lv_at hl 5 rfl) ?_
    refine lv_icmp_gt (tgt := 116) hx hb dX10_pack_43 (by decide) (fun c_11 => ?_) (fun c_11 => ?_)
    · skip
      have tc_11 : v1.toInt < x10_5.toInt := (fa_lt _ _).mp c_11
      refine lv_iload hx hb dX10_pack_116 (lv_at hl 1 rfl) ?_
      exact ret_i hx hb hr hlocks ⟨⟨hS.1, hS.2.1⟩, G_10, hF, ⟨_, rfl, trivial⟩, hT⟩ hS.2.2 (Nat.le_of_ble_eq_true rfl) (Nat.le_of_ble_eq_true rfl) dX10_pack_118
    · skip
      have tc_11 : ¬ v1.toInt < x10_5.toInt := fun h => c_11 ((fa_lt _ _).mpr h)
      refine lv_iconst (v := 0) hx hb dX10_pack_46 (by decide) ?_
      refine lv_istore (lv' := [(4, .int 0), (3, .int x10_3), (5, .int x10_5), (0, .ref a), (1, .int v0), (2, .int v1)]) hx hb dX10_pack_47 hl (by decide) rfl (fun ls hl => ?_)
      refine W.loop (σ := Int32 × Gh) (fun w12 H locs ls => 0 ≤ w12.1.toInt ∧ w12.1.toInt ≤ 999 ∧ (∀ t9 r9 : Nat, t9 < th0.toInt → r9 ≤ rm9.toInt → RCH w12.2 ca la t9 r9) ∧ (w12.1.toInt ≤ x10_3.toInt) ∧ (∀ s9 : Nat, s9 < w12.1.toInt → RCs w12.2 ca la x10_5.toInt.toNat x10_3.toInt.toNat s9 ≠ w12.2.2.1 la (1000 * x10_5.toInt.toNat + x10_3.toInt.toNat)) ∧ Fr τ [11, 79, 86, 87] G w12.2 ∧ TY D cy base τ w12.2 H ∧ va_S (RA base) s.heap H locs ∧ lv_has ls 6 [(4, .int w12.1), (3, .int x10_3), (5, .int x10_5), (0, .ref a), (1, .int v0), (2, .int v1)]) (fun w12 => (x10_3.toInt - w12.1.toInt).toNat) ?_ ((0 : Int32), G_10) _ _ _ ⟨(by show 0 ≤ (0 : Int32).toInt; decide), (by show (0 : Int32).toInt ≤ 999; decide), (by show ∀ t9 r9 : Nat, t9 < th0.toInt → r9 ≤ rm9.toInt → RCH G_10 ca la t9 r9; exact i10_6), (by show (0 : Int) ≤ x10_3.toInt; first | omega | assumption | exact rfl), (by show ∀ s9 : Nat, s9 < (0 : Int) → RCs G_10 ca la x10_5.toInt.toNat x10_3.toInt.toNat s9 ≠ G_10.2.1 la (1000 * x10_5.toInt.toNat + x10_3.toInt.toNat); intro s9 q1; exfalso; omega), hF, hT, hS, lv_sub hl [0, 1, 2, 3, 4, 5] rfl⟩
      intro w12 H locs ls hI ih12
      obtain ⟨x12_4, G_12⟩ := w12
      obtain ⟨i12_0, i12_1, i12_2, i12_3, i12_4, hF, hT, hS, hl⟩ := hI
      have i12_0 : 0 ≤ x12_4.toInt := i12_0
      have i12_1 : x12_4.toInt ≤ 999 := i12_1
      have i12_2 : (∀ t9 r9 : Nat, t9 < th0.toInt → r9 ≤ rm9.toInt → RCH G_12 ca la t9 r9) := i12_2
      have i12_3 : (x12_4.toInt ≤ x10_3.toInt) := i12_3
      have i12_4 : (∀ s9 : Nat, s9 < x12_4.toInt → RCs G_12 ca la x10_5.toInt.toNat x10_3.toInt.toNat s9 ≠ G_12.2.1 la (1000 * x10_5.toInt.toNat + x10_3.toInt.toNat)) := i12_4
      have hF : Fr τ [11, 79, 86, 87] G G_12 := hF
      have hT : TY D cy base τ G_12 H := hT
      have hS : va_S (RA base) s.heap H locs := hS
      have hl : lv_has ls 6 [(4, .int x12_4), (3, .int x10_3), (5, .int x10_5), (0, .ref a), (1, .int v0), (2, .int v1)] := hl
      refine lv_aload_n hx hb dX10_pack_49 rfl (lv_at hl 3 rfl) ?_
      refine t_getr cf_11 hx hb hts hown hK hT h_a (k := 36) (P := fun q => τ q = 86) rfl (fun _ h9 => h9) fl_X10_92 (fun _ h9 => h9) dX10_pack_50 (fun q_13 eq_13 hq_13 => ?_)
      have w_14 : ca = q_13 := Option.some.inj (e_ca.symm.trans ((hF.r h_a (by decide) rfl _).symm.trans eq_13))
      subst w_14
      refine lv_sipush (v := 1000) hx hb dX10_pack_53 (by decide) ?_
      refine lv_iload hx hb dX10_pack_56 (lv_at hl 2 rfl) ?_
      refine lv_imul hx hb dX10_pack_58 ?_
      refine lv_topi (fun z_15 ez_15 => ?_)
      have tz_15 : z_15.toInt = 1000 * x10_5.toInt := mul_t ez_15 (show -2147483648 ≤ 1000 * x10_5.toInt by omega) (show 1000 * x10_5.toInt < 2147483648 by omega)
      refine lv_iload hx hb dX10_pack_59 (lv_at hl 0 rfl) ?_
      refine lv_iadd hx hb dX10_pack_61 ?_
      refine lv_topi (fun z_16 ez_16 => ?_)
      have tz_16 : z_16.toInt = z_15.toInt + x12_4.toInt := add_t ez_16 (show -2147483648 ≤ z_15.toInt + x12_4.toInt by omega) (show z_15.toInt + x12_4.toInt < 2147483648 by omega)
      refine t_lald (n := 3000) (i := z_16) rfl (by decide) hx hb hK hT h_ca (hT.len h_ca (by decide)) ⟨by omega, by omega⟩ dX10_pack_62 (fun z_17 ez_17 => ?_)
      refine lv_aload_n hx hb dX10_pack_63 rfl (lv_at hl 3 rfl) ?_
      refine t_getr cf_11 hx hb hts hown hK hT h_a (k := 37) (P := fun q => τ q = 87) rfl (fun _ h9 => h9) fl_X10_95 (fun _ h9 => h9) dX10_pack_64 (fun q_18 eq_18 hq_18 => ?_)
      have w_19 : la = q_18 := Option.some.inj (e_la.symm.trans ((hF.r h_a (by decide) rfl _).symm.trans eq_18))
      subst w_19
      refine lv_sipush (v := 1000) hx hb dX10_pack_67 (by decide) ?_
      refine lv_iload hx hb dX10_pack_70 (lv_at hl 2 rfl) ?_
      refine lv_iconst (v := 1) hx hb dX10_pack_72 (by decide) ?_
      refine lv_iadd hx hb dX10_pack_73 ?_
      refine lv_topi (fun z_20 ez_20 => ?_)
      have tz_20 : z_20.toInt = x10_5.toInt + 1 := add_t ez_20 (show -2147483648 ≤ x10_5.toInt + 1 by omega) (show x10_5.toInt + 1 < 2147483648 by omega)
      refine lv_imul hx hb dX10_pack_74 ?_
      refine lv_topi (fun z_21 ez_21 => ?_)
      have tz_21 : z_21.toInt = 1000 * z_20.toInt := mul_t ez_21 (show -2147483648 ≤ 1000 * z_20.toInt by omega) (show 1000 * z_20.toInt < 2147483648 by omega)
      refine lv_iload_n hx hb dX10_pack_75 rfl (lv_at hl 1 rfl) ?_
      refine lv_iadd hx hb dX10_pack_76 ?_
      refine lv_topi (fun z_22 ez_22 => ?_)
      have tz_22 : z_22.toInt = z_21.toInt + x10_3.toInt := add_t ez_22 (show -2147483648 ≤ z_21.toInt + x10_3.toInt by omega) (show z_21.toInt + x10_3.toInt < 2147483648 by omega)
      refine lv_iload hx hb dX10_pack_77 (lv_at hl 0 rfl) ?_
      refine lv_isub hx hb dX10_pack_79 ?_
      refine lv_topi (fun z_23 ez_23 => ?_)
      have tz_23 : z_23.toInt = z_22.toInt - x12_4.toInt := sub_t ez_23 (show -2147483648 ≤ z_22.toInt - x12_4.toInt by omega) (show z_22.toInt - x12_4.toInt < 2147483648 by omega)
      refine t_lald (n := 4000) (i := z_23) rfl (by decide) hx hb hK hT h_la (hT.len h_la (by decide)) ⟨by omega, by omega⟩ dX10_pack_80 (fun z_24 ez_24 => ?_)
      refine lv_ladd hx hb dX10_pack_81 ?_
      refine lv_topl (fun z_25 ez_25 => ?_)
      refine lv_aload_n hx hb dX10_pack_82 rfl (lv_at hl 3 rfl) ?_
      refine t_getr cf_11 hx hb hts hown hK hT h_a (k := 37) (P := fun q => τ q = 87) rfl (fun _ h9 => h9) fl_X10_95 (fun _ h9 => h9) dX10_pack_83 (fun q_26 eq_26 hq_26 => ?_)
      have w_27 : la = q_26 := Option.some.inj (e_la.symm.trans ((hF.r h_a (by decide) rfl _).symm.trans eq_26))
      subst w_27
      refine lv_sipush (v := 1000) hx hb dX10_pack_86 (by decide) ?_
      refine lv_iload hx hb dX10_pack_89 (lv_at hl 2 rfl) ?_
      refine lv_imul hx hb dX10_pack_91 ?_
      refine lv_topi (fun z_28 ez_28 => ?_)
      have w_29 : z_15 = z_28 := ez_15.trans ez_28.symm
      subst w_29
      refine lv_iload_n hx hb dX10_pack_92 rfl (lv_at hl 1 rfl) ?_
      refine lv_iadd hx hb dX10_pack_93 ?_
      refine lv_topi (fun z_30 ez_30 => ?_)
      have tz_30 : z_30.toInt = z_15.toInt + x10_3.toInt := add_t ez_30 (show -2147483648 ≤ z_15.toInt + x10_3.toInt by omega) (show z_15.toInt + x10_3.toInt < 2147483648 by omega)
      refine t_lald (n := 4000) (i := z_30) rfl (by decide) hx hb hK hT h_la (hT.len h_la (by decide)) ⟨by omega, by omega⟩ dX10_pack_94 (fun z_31 ez_31 => ?_)
      refine W.lcmp hx hb dX10_pack_95 ?_
      refine lv_topi (fun z_32 ez_32 => ?_)
      have tz_32 : (z_32.toInt < 0 ↔ z_25.toInt < z_31.toInt) ∧ (0 < z_32.toInt ↔ z_31.toInt < z_25.toInt) ∧ -1 ≤ z_32.toInt ∧ z_32.toInt ≤ 1 := cmp_t ez_32
      refine lv_if_eq (tgt := 105) hx hb dX10_pack_96 (by decide) (fun c_33 => ?_) (fun c_33 => ?_)
      · skip
        have tc_33 : z_32.toInt = 0 := (fa_eq _ _).mp c_33
        refine lv_iload_n hx hb dX10_pack_105 rfl (lv_at hl 1 rfl) ?_
        refine lv_iload hx hb dX10_pack_106 (lv_at hl 0 rfl) ?_
        refine lv_isub hx hb dX10_pack_108 ?_
        refine lv_topi (fun z_34 ez_34 => ?_)
        have tz_34 : z_34.toInt = x10_3.toInt - x12_4.toInt := sub_t ez_34 (show -2147483648 ≤ x10_3.toInt - x12_4.toInt by omega) (show x10_3.toInt - x12_4.toInt < 2147483648 by omega)
        refine lv_istore_n (lv' := [(3, .int z_34), (4, .int x12_4), (5, .int x10_5), (0, .ref a), (1, .int v0), (2, .int v1)]) hx hb dX10_pack_109 rfl hl (by decide) rfl (fun ls hl => ?_)
        obtain ⟨z_35, ez_35⟩ : ∃ y : Int32, y = x10_5 + 1 := ⟨_, rfl⟩
        have tz_35 : z_35.toInt = x10_5.toInt + 1 := add_t ez_35 (show -2147483648 ≤ x10_5.toInt + 1 by omega) (show x10_5.toInt + 1 < 2147483648 by omega)
        refine lv_iinc (v := z_35) (lv' := [(5, .int z_35), (3, .int z_34), (4, .int x12_4), (0, .ref a), (1, .int v0), (2, .int v1)]) hx hb dX10_pack_110 hl (k := 2) rfl (by rw [ez_35]; rfl) (by decide) rfl (fun ls hl => ?_)
        refine lv_goto (tgt := 40) hx hb dX10_pack_113 (by decide) ?_
        exact ih10 (z_34, x12_4, z_35, G_12) _ _ _ (by show (3 - z_35.toInt).toNat < (3 - x10_5.toInt).toNat; omega) ⟨(by show 0 ≤ z_34.toInt; omega), (by show z_34.toInt ≤ 999; omega), (by show 0 ≤ x12_4.toInt; omega), (by show x12_4.toInt ≤ 999; omega), (by show 0 ≤ z_35.toInt; omega), (by show z_35.toInt ≤ 3; omega), by show ∀ t9 r9 : Nat, t9 < th0.toInt → r9 ≤ rm9.toInt → RCH G_12 ca la t9 r9; exact i12_2, by show z_34.toInt ≤ rm9.toInt; first | omega | assumption, hF, hT, hS, lv_sub hl [1, 2, 0, 3, 4, 5] rfl⟩
      · skip
        have tc_33 : ¬ z_32.toInt = 0 := fun h => c_33 ((fa_eq _ _).mpr h)
        have hRs : RCs G_12 ca la x10_5.toInt.toNat x10_3.toInt.toNat x12_4.toInt.toNat = z_25 := rcs_of ez_17 ez_24 ez_25 (show z_16.toInt.toNat = 1000 * x10_5.toInt.toNat + x12_4.toInt.toNat from by omega) (show z_23.toInt.toNat = 1000 * (x10_5.toInt.toNat + 1) + (x10_3.toInt.toNat - x12_4.toInt.toNat) from by omega)
        have hRl : G_12.2.1 la (1000 * x10_5.toInt.toNat + x10_3.toInt.toNat) = z_31 := by rw [ez_31, show z_30.toNatClampNeg = 1000 * x10_5.toInt.toNat + x10_3.toInt.toNat from (show z_30.toInt.toNat = _ from by omega)]
        have hRn : RCs G_12 ca la x10_5.toInt.toNat x10_3.toInt.toNat x12_4.toInt.toNat ≠ G_12.2.1 la (1000 * x10_5.toInt.toNat + x10_3.toInt.toNat) := fun q9 => by rw [hRs, hRl] at q9; have q8 := congrArg Int64.toInt q9; omega
        have hlt : x12_4.toInt < x10_3.toInt := by
          obtain ⟨s9, p1, p2⟩ := i12_2 x10_5.toInt.toNat x10_3.toInt.toNat (by omega) (by omega)
          rcases Nat.lt_or_ge s9 x12_4.toInt.toNat with h9 | h9
          · exact absurd p2 (i12_4 s9 (by omega))
          · rcases Nat.lt_or_ge x12_4.toInt.toNat s9 with h8 | h8
            · omega
            · exact absurd (by rw [show s9 = x12_4.toInt.toNat by omega] at p2; exact p2) hRn
        obtain ⟨z_36, ez_36⟩ : ∃ y : Int32, y = x12_4 + 1 := ⟨_, rfl⟩
        have tz_36 : z_36.toInt = x12_4.toInt + 1 := add_t ez_36 (show -2147483648 ≤ x12_4.toInt + 1 by omega) (show x12_4.toInt + 1 < 2147483648 by omega)
        refine lv_iinc (v := z_36) (lv' := [(4, .int z_36), (3, .int x10_3), (5, .int x10_5), (0, .ref a), (1, .int v0), (2, .int v1)]) hx hb dX10_pack_99 hl (k := 0) rfl (by rw [ez_36]; rfl) (by decide) rfl (fun ls hl => ?_)
        refine lv_goto (tgt := 49) hx hb dX10_pack_102 (by decide) ?_
        exact ih12 (z_36, G_12) _ _ _ (by show (x10_3.toInt - z_36.toInt).toNat < (x10_3.toInt - x12_4.toInt).toNat; omega) ⟨(by show 0 ≤ z_36.toInt; omega), (by show z_36.toInt ≤ 999; omega), by show ∀ t9 r9 : Nat, t9 < th0.toInt → r9 ≤ rm9.toInt → RCH G_12 ca la t9 r9; exact i12_2, by show z_36.toInt ≤ x10_3.toInt; first | omega | assumption, by show ∀ s9 : Nat, s9 < z_36.toInt → RCs G_12 ca la x10_5.toInt.toNat x10_3.toInt.toNat s9 ≠ G_12.2.1 la (1000 * x10_5.toInt.toNat + x10_3.toInt.toNat); intro s9 q1; exact (Classical.em (s9 = x12_4.toInt.toNat)).elim (fun h9 => by rw [h9]; exact hRn) (fun h9 => i12_4 s9 (by omega)), hF, hT, hS, lv_sub hl [0, 1, 2, 3, 4, 5] rfl⟩
  · skip
    have er_2 := hr_2_1
    subst er_2
    refine W.eq (g2 := F0 m 12 ls [.int 0]) rfl ?_
    refine lv_if_ne (tgt := 18) hx hb dX10_pack_12 (by decide) (fun c_37 => absurd rfl c_37) (fun _ => ?_)
    refine lv_bipush (v := (-2)) hx hb dX10_pack_15 (by decide) ?_
    exact ret_i hx hb hr hlocks ⟨⟨hS.1, hS.2.1⟩, G_1, hF, ⟨_, rfl, trivial⟩, hT⟩ hS.2.2 (Nat.le_of_ble_eq_true rfl) (Nat.le_of_ble_eq_true rfl) dX10_pack_17
set_option maxHeartbeats 4000000 in
set_option maxRecDepth 100000 in
theorem t_X10_packed (l : Launch) (D : va_G) (cy : Nat → ClassId) (base : Nat) (τ : Nat → Nat) (G : Gh) (a : Nat) (h_a : τ a = 11) (v0 : Int32) : MM l yX10_packed cX10_packed 2 (some .long) 4 0 0 D cy [.ref a, .int v0] (PT D cy base τ G) (QT D cy base τ G [11, 79, 86, 87] (fun v g => ∃ r : Int64, v = some (.long r) ∧ (True))) (RA base) := by
  refine MM.of (by decide) (Nat.le_of_ble_eq_true rfl) ?_
  intro p e s m below meth c C hPT ls hl
  obtain ⟨hx, hb, hr, hml, hown, hts, hlocks, hK, hnm⟩ := C
  obtain ⟨hZ, hT⟩ := hPT
  have hS : va_S (RA base) s.heap s.heap [] := va_S.rf
  have hF : Fr τ [11, 79, 86, 87] G G := Fr.rf
  have hl : lv_has ls 2 [(0, .ref a), (1, .int v0)] := hl
  refine lv_aload_n hx hb dX10_packed_0 rfl (lv_at hl 0 rfl) ?_
  refine lv_iconst (v := 0) hx hb dX10_packed_1 (by decide) ?_
  refine t_puti (x := 0) cf_11 hx hb hts hown hK hT hS h_a (k := 0) rfl trivial fl_X10_111 (fun _ h9 => h9) rfl rfl rfl dX10_packed_2 (fun H locs G_1 eG_1 hT hS => ?_)
  have hF := hF.wI eG_1 h_a rfl
  refine lv_aload_n hx hb dX10_packed_5 rfl (lv_at hl 0 rfl) ?_
  refine lv_iload_n hx hb dX10_packed_6 rfl (lv_at hl 1 rfl) ?_
  refine pu_calli (runV (As := [.int v0]) (rest := []) ⟨hx, hb, hml, hown, hts⟩ (t_X10_isValley l D cy base τ G_1 a h_a v0) sV_X10_297 hK (t_recv cf_11 hK hT h_a) ⟨Nat.le_trans hZ hS.1, hT⟩ ⟨Nat.le_of_ble_eq_true rfl, Nat.le_of_ble_eq_true rfl⟩ rfl hl.1 rfl (Nat.le_of_ble_eq_true rfl) dX10_packed_7 ⟨Nat.le_of_ble_eq_true rfl, Nat.le_of_ble_eq_true rfl⟩) (fun r_2 hr_2 => ?_)
  have hr_2_c := hr_2
  rcases hr_2_c with hr_2_0 | hr_2_1
  · skip
    obtain ⟨er_2, hr_2_0_f0, hr_2_0_f1⟩ := hr_2_0
    have hr_2_0_f0 : 0 ≤ v0.toInt := hr_2_0_f0
    have hr_2_0_f1 : v0.toInt ≤ 5 := hr_2_0_f1
    subst er_2
    refine W.eq (g2 := F0 m 10 ls [.int 1]) rfl ?_
    refine lv_if_ne (tgt := 17) hx hb dX10_packed_10 (by decide) (fun _ => ?_) (fun c_3 => absurd c_3 (by decide))
    refine lv_aload_n hx hb dX10_packed_17 rfl (lv_at hl 0 rfl) ?_
    refine lv_iload_n hx hb dX10_packed_18 rfl (lv_at hl 1 rfl) ?_
    obtain ⟨q_4, eq_4, hq_4⟩ := (show ∃ q, G_1.2.2.1 a 18 = some q ∧ τ q = 68 from hT.rgr h_a (by decide) 18)
    have eq_4 := (hF.r h_a (by decide) rfl _).symm.trans eq_4
    obtain ⟨q_5, eq_5, hq_5⟩ := (show ∃ q, G_1.2.2.1 a 36 = some q ∧ τ q = 86 from hT.rgr h_a (by decide) 36)
    have eq_5 := (hF.r h_a (by decide) rfl _).symm.trans eq_5
    obtain ⟨q_6, eq_6, hq_6⟩ := (show ∃ q, G_1.2.2.1 a 37 = some q ∧ τ q = 87 from hT.rgr h_a (by decide) 37)
    have eq_6 := (hF.r h_a (by decide) rfl _).symm.trans eq_6
    obtain ⟨q_7, eq_7, hq_7⟩ := (show ∃ q, G_1.2.2.1 a 21 = some q ∧ τ q = 71 from hT.rgr h_a (by decide) 21)
    have eq_7 := (hF.r h_a (by decide) rfl _).symm.trans eq_7
    obtain ⟨z_8, ez_8⟩ : ∃ y : Int32, y = G_1.1 q_4 0 := ⟨_, rfl⟩
    have rz_8 : 0 ≤ z_8.toInt ∧ z_8.toInt ≤ 3 := by rw [ez_8]; exact hT.rgi hq_4 (by decide) 0
    have ez_8 : z_8 = G.1 q_4 0 := ez_8.trans (hF.i hq_4 (by decide) rfl _)
    refine t_callv (runV (As := [.int v0]) (rest := []) ⟨hx, hb, hml, hown, hts⟩ (t_X10_packs l D cy base τ G_1 a h_a v0 ⟨by omega, by omega⟩ q_4 hq_4 ((hF.r h_a (by decide) rfl _).trans eq_4) q_5 hq_5 ((hF.r h_a (by decide) rfl _).trans eq_5) q_6 hq_6 ((hF.r h_a (by decide) rfl _).trans eq_6) q_7 hq_7 ((hF.r h_a (by decide) rfl _).trans eq_7) z_8 (ez_8.trans (hF.i hq_4 (by decide) rfl _).symm) ⟨by omega, by omega⟩) sV_X10_389 hK (t_recv cf_11 hK hT h_a) ⟨Nat.le_trans hZ hS.1, hT⟩ ⟨Nat.le_of_ble_eq_true rfl, Nat.le_of_ble_eq_true rfl⟩ rfl hl.1 rfl (Nat.le_of_ble_eq_true rfl) dX10_packed_19 ⟨Nat.le_of_ble_eq_true rfl, Nat.le_of_ble_eq_true rfl⟩) hS (fun G_9 H locs hF_9 hr_9 hT hS => ?_)
    have hF := hF.tr hF_9 rfl
    have hr_9_p0 := hr_9
    have hr_9_p0 : ∀ t9 r9 : Nat, t9 < z_8.toInt → r9 ≤ (G_1.1 q_7 (5 * v0.toInt.toNat + 1)).toInt → RCH G_9 q_5 q_6 t9 r9 := hr_9_p0
    refine lv_aload_n hx hb dX10_packed_22 rfl (lv_at hl 0 rfl) ?_
    refine t_getr cf_11 hx hb hts hown hK hT h_a (k := 37) (P := fun q => τ q = 87) rfl (fun _ h9 => h9) fl_X10_95 (fun _ h9 => h9) dX10_packed_23 (fun q_10 eq_10 hq_10 => ?_)
    have w_11 : q_6 = q_10 := Option.some.inj (eq_6.symm.trans ((hF.r h_a (by decide) rfl _).symm.trans eq_10))
    subst w_11
    refine lv_aload_n hx hb dX10_packed_26 rfl (lv_at hl 0 rfl) ?_
    refine t_getr cf_11 hx hb hts hown hK hT h_a (k := 21) (P := fun q => τ q = 71) rfl (fun _ h9 => h9) fl_X10_46 (fun _ h9 => h9) dX10_packed_27 (fun q_12 eq_12 hq_12 => ?_)
    have w_13 : q_7 = q_12 := Option.some.inj (eq_7.symm.trans ((hF.r h_a (by decide) rfl _).symm.trans eq_12))
    subst w_13
    refine lv_iconst (v := 5) hx hb dX10_packed_30 (by decide) ?_
    refine lv_iload_n hx hb dX10_packed_31 rfl (lv_at hl 1 rfl) ?_
    refine lv_imul hx hb dX10_packed_32 ?_
    refine lv_topi (fun z_14 ez_14 => ?_)
    have tz_14 : z_14.toInt = 5 * v0.toInt := mul_t ez_14 (show -2147483648 ≤ 5 * v0.toInt by omega) (show 5 * v0.toInt < 2147483648 by omega)
    refine lv_iconst (v := 1) hx hb dX10_packed_33 (by decide) ?_
    refine lv_iadd hx hb dX10_packed_34 ?_
    refine lv_topi (fun z_15 ez_15 => ?_)
    have tz_15 : z_15.toInt = z_14.toInt + 1 := add_t ez_15 (show -2147483648 ≤ z_14.toInt + 1 by omega) (show z_14.toInt + 1 < 2147483648 by omega)
    refine t_iald (n := 150) (i := z_15) rfl (by decide) hx hb hK hT hq_7 (hT.len hq_7 (by decide)) ⟨by omega, by omega⟩ dX10_packed_35 (fun z_16 ez_16 rz_16 => ?_)
    have ez_16 : z_16 = G.1 q_7 z_15.toNatClampNeg := ez_16.trans (hF.i hq_7 (by decide) rfl _)
    have qz_16 : (z_15.toInt.toNat % 5 = 1 → 0 ≤ z_16.toInt ∧ z_16.toInt ≤ 999) ∧ (z_15.toInt.toNat % 5 = 2 → 0 ≤ z_16.toInt ∧ z_16.toInt ≤ 9) ∧ (z_15.toInt.toNat % 5 = 3 → 0 ≤ z_16.toInt ∧ z_16.toInt ≤ 9) ∧ (z_15.toInt.toNat % 5 = 4 → 0 ≤ z_16.toInt ∧ z_16.toInt ≤ 9) := rz_16
    have rz_16 : 0 ≤ z_16.toInt ∧ z_16.toInt ≤ 999 := by omega
    refine t_lald (n := 4000) (i := z_16) rfl (by decide) hx hb hK hT hq_6 (hT.len hq_6 (by decide)) ⟨by omega, by omega⟩ dX10_packed_36 (fun z_17 ez_17 => ?_)
    refine lv_ldc2 (v := 1000000000) hx hb hown (hts _ kl_X10_345) dX10_packed_37 ?_
    refine lv_ldiv hx hb dX10_packed_40 (by decide) ?_
    refine lv_topl (fun z_18 ez_18 => ?_)
    exact ret_l hx hb hr hlocks ⟨⟨hS.1, hS.2.1⟩, G_9, hF, ⟨_, rfl, trivial⟩, hT⟩ hS.2.2 (Nat.le_of_ble_eq_true rfl) (Nat.le_of_ble_eq_true rfl) dX10_packed_41
  · skip
    have er_2 := hr_2_1
    subst er_2
    refine W.eq (g2 := F0 m 10 ls [.int 0]) rfl ?_
    refine lv_if_ne (tgt := 17) hx hb dX10_packed_10 (by decide) (fun c_19 => absurd rfl c_19) (fun _ => ?_)
    refine lv_ldc2 (v := (-2)) hx hb hown (hts _ kl_X10_300) dX10_packed_13 ?_
    exact ret_l hx hb hr hlocks ⟨⟨hS.1, hS.2.1⟩, G_1, hF, ⟨_, rfl, trivial⟩, hT⟩ hS.2.2 (Nat.le_of_ble_eq_true rfl) (Nat.le_of_ble_eq_true rfl) dX10_packed_16
set_option maxHeartbeats 4000000 in
set_option maxRecDepth 100000 in
theorem t_X10_gap (l : Launch) (D : va_G) (cy : Nat → ClassId) (base : Nat) (τ : Nat → Nat) (G : Gh) (a : Nat) (h_a : τ a = 11) (v0 : Int32) : MM l yX10_gap cX10_gap 5 (some .long) 4 0 0 D cy [.ref a, .int v0] (PT D cy base τ G) (QT D cy base τ G [11, 79, 86, 87] (fun v g => ∃ r : Int64, v = some (.long r) ∧ (True))) (RA base) := by
  refine MM.of (by decide) (Nat.le_of_ble_eq_true rfl) ?_
  intro p e s m below meth c C hPT ls hl
  obtain ⟨hx, hb, hr, hml, hown, hts, hlocks, hK, hnm⟩ := C
  obtain ⟨hZ, hT⟩ := hPT
  have hS : va_S (RA base) s.heap s.heap [] := va_S.rf
  have hF : Fr τ [11, 79, 86, 87] G G := Fr.rf
  have hl : lv_has ls 5 [(0, .ref a), (1, .int v0)] := hl
  refine lv_aload_n hx hb dX10_gap_0 rfl (lv_at hl 0 rfl) ?_
  refine lv_iconst (v := 0) hx hb dX10_gap_1 (by decide) ?_
  refine t_puti (x := 0) cf_11 hx hb hts hown hK hT hS h_a (k := 0) rfl trivial fl_X10_111 (fun _ h9 => h9) rfl rfl rfl dX10_gap_2 (fun H locs G_1 eG_1 hT hS => ?_)
  have hF := hF.wI eG_1 h_a rfl
  refine lv_aload_n hx hb dX10_gap_5 rfl (lv_at hl 0 rfl) ?_
  refine lv_iload_n hx hb dX10_gap_6 rfl (lv_at hl 1 rfl) ?_
  refine pu_calli (runV (As := [.int v0]) (rest := []) ⟨hx, hb, hml, hown, hts⟩ (t_X10_isValley l D cy base τ G_1 a h_a v0) sV_X10_297 hK (t_recv cf_11 hK hT h_a) ⟨Nat.le_trans hZ hS.1, hT⟩ ⟨Nat.le_of_ble_eq_true rfl, Nat.le_of_ble_eq_true rfl⟩ rfl hl.1 rfl (Nat.le_of_ble_eq_true rfl) dX10_gap_7 ⟨Nat.le_of_ble_eq_true rfl, Nat.le_of_ble_eq_true rfl⟩) (fun r_2 hr_2 => ?_)
  have hr_2_c := hr_2
  rcases hr_2_c with hr_2_0 | hr_2_1
  · skip
    obtain ⟨er_2, hr_2_0_f0, hr_2_0_f1⟩ := hr_2_0
    have hr_2_0_f0 : 0 ≤ v0.toInt := hr_2_0_f0
    have hr_2_0_f1 : v0.toInt ≤ 5 := hr_2_0_f1
    subst er_2
    refine W.eq (g2 := F0 m 10 ls [.int 1]) rfl ?_
    refine lv_if_ne (tgt := 17) hx hb dX10_gap_10 (by decide) (fun _ => ?_) (fun c_3 => absurd c_3 (by decide))
    refine lv_aload_n hx hb dX10_gap_17 rfl (lv_at hl 0 rfl) ?_
    refine lv_iload_n hx hb dX10_gap_18 rfl (lv_at hl 1 rfl) ?_
    obtain ⟨q_4, eq_4, hq_4⟩ := (show ∃ q, G_1.2.2.1 a 18 = some q ∧ τ q = 68 from hT.rgr h_a (by decide) 18)
    have eq_4 := (hF.r h_a (by decide) rfl _).symm.trans eq_4
    obtain ⟨q_5, eq_5, hq_5⟩ := (show ∃ q, G_1.2.2.1 a 36 = some q ∧ τ q = 86 from hT.rgr h_a (by decide) 36)
    have eq_5 := (hF.r h_a (by decide) rfl _).symm.trans eq_5
    obtain ⟨q_6, eq_6, hq_6⟩ := (show ∃ q, G_1.2.2.1 a 37 = some q ∧ τ q = 87 from hT.rgr h_a (by decide) 37)
    have eq_6 := (hF.r h_a (by decide) rfl _).symm.trans eq_6
    obtain ⟨q_7, eq_7, hq_7⟩ := (show ∃ q, G_1.2.2.1 a 21 = some q ∧ τ q = 71 from hT.rgr h_a (by decide) 21)
    have eq_7 := (hF.r h_a (by decide) rfl _).symm.trans eq_7
    obtain ⟨z_8, ez_8⟩ : ∃ y : Int32, y = G_1.1 q_4 0 := ⟨_, rfl⟩
    have rz_8 : 0 ≤ z_8.toInt ∧ z_8.toInt ≤ 3 := by rw [ez_8]; exact hT.rgi hq_4 (by decide) 0
    have ez_8 : z_8 = G.1 q_4 0 := ez_8.trans (hF.i hq_4 (by decide) rfl _)
    refine t_callv (runV (As := [.int v0]) (rest := []) ⟨hx, hb, hml, hown, hts⟩ (t_X10_packs l D cy base τ G_1 a h_a v0 ⟨by omega, by omega⟩ q_4 hq_4 ((hF.r h_a (by decide) rfl _).trans eq_4) q_5 hq_5 ((hF.r h_a (by decide) rfl _).trans eq_5) q_6 hq_6 ((hF.r h_a (by decide) rfl _).trans eq_6) q_7 hq_7 ((hF.r h_a (by decide) rfl _).trans eq_7) z_8 (ez_8.trans (hF.i hq_4 (by decide) rfl _).symm) ⟨by omega, by omega⟩) sV_X10_389 hK (t_recv cf_11 hK hT h_a) ⟨Nat.le_trans hZ hS.1, hT⟩ ⟨Nat.le_of_ble_eq_true rfl, Nat.le_of_ble_eq_true rfl⟩ rfl hl.1 rfl (Nat.le_of_ble_eq_true rfl) dX10_gap_19 ⟨Nat.le_of_ble_eq_true rfl, Nat.le_of_ble_eq_true rfl⟩) hS (fun G_9 H locs hF_9 hr_9 hT hS => ?_)
    have hF := hF.tr hF_9 rfl
    have hr_9_p0 := hr_9
    have hr_9_p0 : ∀ t9 r9 : Nat, t9 < z_8.toInt → r9 ≤ (G_1.1 q_7 (5 * v0.toInt.toNat + 1)).toInt → RCH G_9 q_5 q_6 t9 r9 := hr_9_p0
    refine lv_lconst (v := 0) hx hb dX10_gap_22 (by decide) ?_
    refine lv_lstore_n (lv' := [(2, .long 0), (0, .ref a), (1, .int v0)]) hx hb dX10_gap_23 rfl hl (by decide) rfl (fun ls hl => ?_)
    refine lv_iconst (v := 0) hx hb dX10_gap_24 (by decide) ?_
    refine lv_istore (lv' := [(4, .int 0), (2, .long 0), (0, .ref a), (1, .int v0)]) hx hb dX10_gap_25 hl (by decide) rfl (fun ls hl => ?_)
    refine W.loop (σ := Int64 × Int32 × Gh) (fun w10 H locs ls => 0 ≤ w10.2.1.toInt ∧ w10.2.1.toInt ≤ 3 ∧ Fr τ [11, 79, 86, 87] G w10.2.2 ∧ TY D cy base τ w10.2.2 H ∧ va_S (RA base) s.heap H locs ∧ lv_has ls 5 [(2, .long w10.1), (4, .int w10.2.1), (0, .ref a), (1, .int v0)]) (fun w10 => (3 - w10.2.1.toInt).toNat) ?_ ((0 : Int64), (0 : Int32), G_9) _ _ _ ⟨(by show 0 ≤ (0 : Int32).toInt; decide), (by show (0 : Int32).toInt ≤ 3; decide), hF, hT, hS, lv_sub hl [1, 0, 2, 3] rfl⟩
    intro w10 H locs ls hI ih10
    obtain ⟨x10_2, x10_4, G_10⟩ := w10
    obtain ⟨i10_0, i10_1, hF, hT, hS, hl⟩ := hI
    have i10_0 : 0 ≤ x10_4.toInt := i10_0
    have i10_1 : x10_4.toInt ≤ 3 := i10_1
    have hF : Fr τ [11, 79, 86, 87] G G_10 := hF
    have hT : TY D cy base τ G_10 H := hT
    have hS : va_S (RA base) s.heap H locs := hS
    have hl : lv_has ls 5 [(2, .long x10_2), (4, .int x10_4), (0, .ref a), (1, .int v0)] := hl
    refine lv_iload hx hb dX10_gap_27 (lv_at hl 1 rfl) ?_
    refine lv_aload_n hx hb dX10_gap_29 rfl (lv_at hl 2 rfl) ?_
    refine t_getr cf_11 hx hb hts hown hK hT h_a (k := 18) (P := fun q => τ q = 68) rfl (fun _ h9 => h9) fl_X10_37 (fun _ h9 => h9) dX10_gap_30 (fun q_11 eq_11 hq_11 => ?_)
    have w_12 : q_4 = q_11 := Option.some.inj (eq_4.symm.trans ((hF.r h_a (by decide) rfl _).symm.trans eq_11))
    subst w_12
    refine lv_iconst (v := 0) hx hb dX10_gap_33 (by decide) ?_
    refine t_iald (n := 5) (i := 0) rfl (by decide) hx hb hK hT hq_4 (hT.len hq_4 (by decide)) ⟨by decide, by decide⟩ dX10_gap_34 (fun z_13 ez_13 rz_13 => ?_)
    have w_14 : z_8 = z_13 := ez_8.trans (ez_13.trans (hF.i hq_4 (by decide) rfl _)).symm
    subst w_14
    refine lv_icmp_ge (tgt := 66) hx hb dX10_gap_35 (by decide) (fun c_15 => ?_) (fun c_15 => ?_)
    · skip
      have tc_15 : z_8.toInt ≤ x10_4.toInt := (fa_le _ _).mp c_15
      refine lv_aload_n hx hb dX10_gap_66 rfl (lv_at hl 2 rfl) ?_
      refine t_getr cf_11 hx hb hts hown hK hT h_a (k := 37) (P := fun q => τ q = 87) rfl (fun _ h9 => h9) fl_X10_95 (fun _ h9 => h9) dX10_gap_67 (fun q_16 eq_16 hq_16 => ?_)
      have w_17 : q_6 = q_16 := Option.some.inj (eq_6.symm.trans ((hF.r h_a (by decide) rfl _).symm.trans eq_16))
      subst w_17
      refine lv_aload_n hx hb dX10_gap_70 rfl (lv_at hl 2 rfl) ?_
      refine t_getr cf_11 hx hb hts hown hK hT h_a (k := 21) (P := fun q => τ q = 71) rfl (fun _ h9 => h9) fl_X10_46 (fun _ h9 => h9) dX10_gap_71 (fun q_18 eq_18 hq_18 => ?_)
      have w_19 : q_7 = q_18 := Option.some.inj (eq_7.symm.trans ((hF.r h_a (by decide) rfl _).symm.trans eq_18))
      subst w_19
      refine lv_iconst (v := 5) hx hb dX10_gap_74 (by decide) ?_
      refine lv_iload_n hx hb dX10_gap_75 rfl (lv_at hl 3 rfl) ?_
      refine lv_imul hx hb dX10_gap_76 ?_
      refine lv_topi (fun z_20 ez_20 => ?_)
      have tz_20 : z_20.toInt = 5 * v0.toInt := mul_t ez_20 (show -2147483648 ≤ 5 * v0.toInt by omega) (show 5 * v0.toInt < 2147483648 by omega)
      refine lv_iconst (v := 1) hx hb dX10_gap_77 (by decide) ?_
      refine lv_iadd hx hb dX10_gap_78 ?_
      refine lv_topi (fun z_21 ez_21 => ?_)
      have tz_21 : z_21.toInt = z_20.toInt + 1 := add_t ez_21 (show -2147483648 ≤ z_20.toInt + 1 by omega) (show z_20.toInt + 1 < 2147483648 by omega)
      refine t_iald (n := 150) (i := z_21) rfl (by decide) hx hb hK hT hq_7 (hT.len hq_7 (by decide)) ⟨by omega, by omega⟩ dX10_gap_79 (fun z_22 ez_22 rz_22 => ?_)
      have ez_22 : z_22 = G.1 q_7 z_21.toNatClampNeg := ez_22.trans (hF.i hq_7 (by decide) rfl _)
      have qz_22 : (z_21.toInt.toNat % 5 = 1 → 0 ≤ z_22.toInt ∧ z_22.toInt ≤ 999) ∧ (z_21.toInt.toNat % 5 = 2 → 0 ≤ z_22.toInt ∧ z_22.toInt ≤ 9) ∧ (z_21.toInt.toNat % 5 = 3 → 0 ≤ z_22.toInt ∧ z_22.toInt ≤ 9) ∧ (z_21.toInt.toNat % 5 = 4 → 0 ≤ z_22.toInt ∧ z_22.toInt ≤ 9) := rz_22
      have rz_22 : 0 ≤ z_22.toInt ∧ z_22.toInt ≤ 999 := by omega
      refine t_lald (n := 4000) (i := z_22) rfl (by decide) hx hb hK hT hq_6 (hT.len hq_6 (by decide)) ⟨by omega, by omega⟩ dX10_gap_80 (fun z_23 ez_23 => ?_)
      refine lv_lload_n hx hb dX10_gap_81 rfl (lv_at hl 0 rfl) ?_
      refine lv_lsub hx hb dX10_gap_82 ?_
      refine lv_topl (fun z_24 ez_24 => ?_)
      refine lv_ldc2 (v := 1000000000) hx hb hown (hts _ kl_X10_345) dX10_gap_83 ?_
      refine lv_ldiv hx hb dX10_gap_86 (by decide) ?_
      refine lv_topl (fun z_25 ez_25 => ?_)
      exact ret_l hx hb hr hlocks ⟨⟨hS.1, hS.2.1⟩, G_10, hF, ⟨_, rfl, trivial⟩, hT⟩ hS.2.2 (Nat.le_of_ble_eq_true rfl) (Nat.le_of_ble_eq_true rfl) dX10_gap_87
    · skip
      have tc_15 : ¬ z_8.toInt ≤ x10_4.toInt := fun h => c_15 ((fa_le _ _).mpr h)
      refine lv_lload_n hx hb dX10_gap_38 rfl (lv_at hl 0 rfl) ?_
      refine lv_aload_n hx hb dX10_gap_39 rfl (lv_at hl 2 rfl) ?_
      refine t_getr cf_11 hx hb hts hown hK hT h_a (k := 36) (P := fun q => τ q = 86) rfl (fun _ h9 => h9) fl_X10_92 (fun _ h9 => h9) dX10_gap_40 (fun q_26 eq_26 hq_26 => ?_)
      have w_27 : q_5 = q_26 := Option.some.inj (eq_5.symm.trans ((hF.r h_a (by decide) rfl _).symm.trans eq_26))
      subst w_27
      refine lv_sipush (v := 1000) hx hb dX10_gap_43 (by decide) ?_
      refine lv_iload hx hb dX10_gap_46 (lv_at hl 1 rfl) ?_
      refine lv_imul hx hb dX10_gap_48 ?_
      refine lv_topi (fun z_28 ez_28 => ?_)
      have tz_28 : z_28.toInt = 1000 * x10_4.toInt := mul_t ez_28 (show -2147483648 ≤ 1000 * x10_4.toInt by omega) (show 1000 * x10_4.toInt < 2147483648 by omega)
      refine lv_aload_n hx hb dX10_gap_49 rfl (lv_at hl 2 rfl) ?_
      refine lv_iload_n hx hb dX10_gap_50 rfl (lv_at hl 3 rfl) ?_
      refine lv_iload hx hb dX10_gap_51 (lv_at hl 1 rfl) ?_
      refine pu_calli (runV (As := [.int v0, .int x10_4]) (rest := [.int z_28, .ref q_5, .long x10_2]) ⟨hx, hb, hml, hown, hts⟩ (t_X10_bestOf l D cy base τ G_10 a h_a v0 ⟨by omega, by omega⟩ x10_4 ⟨by omega, by omega⟩) sV_X10_383 hK (t_recv cf_11 hK hT h_a) ⟨Nat.le_trans hZ hS.1, hT⟩ ⟨Nat.le_of_ble_eq_true rfl, Nat.le_of_ble_eq_true rfl⟩ rfl hl.1 rfl (Nat.le_of_ble_eq_true rfl) dX10_gap_53 ⟨Nat.le_of_ble_eq_true rfl, Nat.le_of_ble_eq_true rfl⟩) (fun r_29 hr_29 => ?_)
      obtain ⟨hr_29_lo, hr_29_hi⟩ := hr_29
      have hr_29_lo : 0 ≤ r_29.toInt := hr_29_lo
      have hr_29_hi : r_29.toInt ≤ 999 := hr_29_hi
      refine lv_iadd hx hb dX10_gap_56 ?_
      refine lv_topi (fun z_30 ez_30 => ?_)
      have tz_30 : z_30.toInt = z_28.toInt + r_29.toInt := add_t ez_30 (show -2147483648 ≤ z_28.toInt + r_29.toInt by omega) (show z_28.toInt + r_29.toInt < 2147483648 by omega)
      refine t_lald (n := 3000) (i := z_30) rfl (by decide) hx hb hK hT hq_5 (hT.len hq_5 (by decide)) ⟨by omega, by omega⟩ dX10_gap_57 (fun z_31 ez_31 => ?_)
      refine lv_ladd hx hb dX10_gap_58 ?_
      refine lv_topl (fun z_32 ez_32 => ?_)
      refine lv_lstore_n (lv' := [(2, .long z_32), (4, .int x10_4), (0, .ref a), (1, .int v0)]) hx hb dX10_gap_59 rfl hl (by decide) rfl (fun ls hl => ?_)
      obtain ⟨z_33, ez_33⟩ : ∃ y : Int32, y = x10_4 + 1 := ⟨_, rfl⟩
      have tz_33 : z_33.toInt = x10_4.toInt + 1 := add_t ez_33 (show -2147483648 ≤ x10_4.toInt + 1 by omega) (show x10_4.toInt + 1 < 2147483648 by omega)
      refine lv_iinc (v := z_33) (lv' := [(4, .int z_33), (2, .long z_32), (0, .ref a), (1, .int v0)]) hx hb dX10_gap_60 hl (k := 1) rfl (by rw [ez_33]; rfl) (by decide) rfl (fun ls hl => ?_)
      refine lv_goto (tgt := 27) hx hb dX10_gap_63 (by decide) ?_
      exact ih10 (z_32, z_33, G_10) _ _ _ (by show (3 - z_33.toInt).toNat < (3 - x10_4.toInt).toNat; omega) ⟨(by show 0 ≤ z_33.toInt; omega), (by show z_33.toInt ≤ 3; omega), hF, hT, hS, lv_sub hl [1, 0, 2, 3] rfl⟩
  · skip
    have er_2 := hr_2_1
    subst er_2
    refine W.eq (g2 := F0 m 10 ls [.int 0]) rfl ?_
    refine lv_if_ne (tgt := 17) hx hb dX10_gap_10 (by decide) (fun c_34 => absurd rfl c_34) (fun _ => ?_)
    refine lv_ldc2 (v := (-2)) hx hb hown (hts _ kl_X10_300) dX10_gap_13 ?_
    exact ret_l hx hb hr hlocks ⟨⟨hS.1, hS.2.1⟩, G_1, hF, ⟨_, rfl, trivial⟩, hT⟩ hS.2.2 (Nat.le_of_ble_eq_true rfl) (Nat.le_of_ble_eq_true rfl) dX10_gap_16
