theorem dX10_line_0 : decode cX10_line 0 = .ok (.aload_n 0, 1) := by decide +kernel
theorem dX10_line_1 : decode cX10_line 1 = .ok (.ldc2_w 224, 3) := by decide +kernel
theorem dX10_line_4 : decode cX10_line 4 = .ok (.invokevirtual 169, 3) := by decide +kernel
theorem dX10_line_7 : decode cX10_line 7 = .ok (.ifCond .eq 7, 3) := by decide +kernel
theorem dX10_line_10 : decode cX10_line 10 = .ok (.iconst 0, 1) := by decide +kernel
theorem dX10_line_11 : decode cX10_line 11 = .ok (.goto 32, 3) := by decide +kernel
theorem dX10_line_43 : decode cX10_line 43 = .ok (.istore_n 1, 1) := by decide +kernel
theorem dX10_line_44 : decode cX10_line 44 = .ok (.iload_n 1, 1) := by decide +kernel
theorem dX10_line_45 : decode cX10_line 45 = .ok (.iconst (-1), 1) := by decide +kernel
theorem dX10_line_46 : decode cX10_line 46 = .ok (.if_icmp .eq 9, 3) := by decide +kernel
theorem dX10_line_49 : decode cX10_line 49 = .ok (.aload_n 0, 1) := by decide +kernel
theorem dX10_line_50 : decode cX10_line 50 = .ok (.iload_n 1, 1) := by decide +kernel
theorem dX10_line_51 : decode cX10_line 51 = .ok (.invokevirtual 230, 3) := by decide +kernel
theorem dX10_line_54 : decode cX10_line 54 = .ok (.return_, 1) := by decide +kernel
theorem dX10_line_14 : decode cX10_line 14 = .ok (.aload_n 0, 1) := by decide +kernel
theorem dX10_line_15 : decode cX10_line 15 = .ok (.ldc2_w 226, 3) := by decide +kernel
theorem dX10_line_18 : decode cX10_line 18 = .ok (.invokevirtual 169, 3) := by decide +kernel
theorem dX10_line_21 : decode cX10_line 21 = .ok (.ifCond .eq 7, 3) := by decide +kernel
theorem dX10_line_24 : decode cX10_line 24 = .ok (.iconst 1, 1) := by decide +kernel
theorem dX10_line_25 : decode cX10_line 25 = .ok (.goto 18, 3) := by decide +kernel
theorem dX10_line_28 : decode cX10_line 28 = .ok (.aload_n 0, 1) := by decide +kernel
theorem dX10_line_29 : decode cX10_line 29 = .ok (.ldc2_w 228, 3) := by decide +kernel
theorem dX10_line_32 : decode cX10_line 32 = .ok (.invokevirtual 169, 3) := by decide +kernel
theorem dX10_line_35 : decode cX10_line 35 = .ok (.ifCond .eq 7, 3) := by decide +kernel
theorem dX10_line_38 : decode cX10_line 38 = .ok (.iconst 2, 1) := by decide +kernel
theorem dX10_line_39 : decode cX10_line 39 = .ok (.goto 4, 3) := by decide +kernel
theorem dX10_line_42 : decode cX10_line 42 = .ok (.iconst (-1), 1) := by decide +kernel
theorem dX10_line_55 : decode cX10_line 55 = .ok (.aload_n 0, 1) := by decide +kernel
theorem dX10_line_56 : decode cX10_line 56 = .ok (.ldc2_w 233, 3) := by decide +kernel
theorem dX10_line_59 : decode cX10_line 59 = .ok (.invokevirtual 169, 3) := by decide +kernel
theorem dX10_line_62 : decode cX10_line 62 = .ok (.istore_n 2, 1) := by decide +kernel
theorem dX10_line_63 : decode cX10_line 63 = .ok (.aload_n 0, 1) := by decide +kernel
theorem dX10_line_64 : decode cX10_line 64 = .ok (.ldc2_w 235, 3) := by decide +kernel
theorem dX10_line_67 : decode cX10_line 67 = .ok (.invokevirtual 169, 3) := by decide +kernel
theorem dX10_line_70 : decode cX10_line 70 = .ok (.istore_n 3, 1) := by decide +kernel
theorem dX10_line_71 : decode cX10_line 71 = .ok (.iload_n 2, 1) := by decide +kernel
theorem dX10_line_72 : decode cX10_line 72 = .ok (.ifCond .ne 22, 3) := by decide +kernel
theorem dX10_line_94 : decode cX10_line 94 = .ok (.iload_n 2, 1) := by decide +kernel
theorem dX10_line_95 : decode cX10_line 95 = .ok (.ifCond .eq 16, 3) := by decide +kernel
theorem dX10_line_98 : decode cX10_line 98 = .ok (.aload_n 0, 1) := by decide +kernel
theorem dX10_line_99 : decode cX10_line 99 = .ok (.getfield 37, 3) := by decide +kernel
theorem dX10_line_102 : decode cX10_line 102 = .ok (.iconst 4, 1) := by decide +kernel
theorem dX10_line_103 : decode cX10_line 103 = .ok (.iaload, 1) := by decide +kernel
theorem dX10_line_104 : decode cX10_line 104 = .ok (.iconst 3, 1) := by decide +kernel
theorem dX10_line_105 : decode cX10_line 105 = .ok (.if_icmp .ne 40, 3) := by decide +kernel
theorem dX10_line_145 : decode cX10_line 145 = .ok (.aload_n 0, 1) := by decide +kernel
theorem dX10_line_146 : decode cX10_line 146 = .ok (.getfield 163, 3) := by decide +kernel
theorem dX10_line_149 : decode cX10_line 149 = .ok (.ifCond .eq 4, 3) := by decide +kernel
theorem dX10_line_153 : decode cX10_line 153 = .ok (.aload_n 0, 1) := by decide +kernel
theorem dX10_line_154 : decode cX10_line 154 = .ok (.invokevirtual 173, 3) := by decide +kernel
theorem dX10_line_157 : decode cX10_line 157 = .ok (.iload_n 2, 1) := by decide +kernel
theorem dX10_line_158 : decode cX10_line 158 = .ok (.ifCond .eq 10, 3) := by decide +kernel
theorem dX10_line_161 : decode cX10_line 161 = .ok (.aload_n 0, 1) := by decide +kernel
theorem dX10_line_162 : decode cX10_line 162 = .ok (.invokevirtual 239, 3) := by decide +kernel
theorem dX10_line_165 : decode cX10_line 165 = .ok (.goto 18, 3) := by decide +kernel
theorem dX10_line_183 : decode cX10_line 183 = .ok (.return_, 1) := by decide +kernel
theorem dX10_line_108 : decode cX10_line 108 = .ok (.goto 32, 3) := by decide +kernel
theorem dX10_line_140 : decode cX10_line 140 = .ok (.aload_n 0, 1) := by decide +kernel
theorem dX10_line_141 : decode cX10_line 141 = .ok (.iconst 3, 1) := by decide +kernel
theorem dX10_line_142 : decode cX10_line 142 = .ok (.invokevirtual 179, 3) := by decide +kernel
theorem dX10_line_152 : decode cX10_line 152 = .ok (.return_, 1) := by decide +kernel
theorem dX10_line_75 : decode cX10_line 75 = .ok (.iload_n 3, 1) := by decide +kernel
theorem dX10_line_76 : decode cX10_line 76 = .ok (.ifCond .ne 18, 3) := by decide +kernel
theorem dX10_line_111 : decode cX10_line 111 = .ok (.iload_n 3, 1) := by decide +kernel
theorem dX10_line_112 : decode cX10_line 112 = .ok (.ifCond .eq 17, 3) := by decide +kernel
theorem dX10_line_115 : decode cX10_line 115 = .ok (.aload_n 0, 1) := by decide +kernel
theorem dX10_line_116 : decode cX10_line 116 = .ok (.getfield 43, 3) := by decide +kernel
theorem dX10_line_119 : decode cX10_line 119 = .ok (.iconst 4, 1) := by decide +kernel
theorem dX10_line_120 : decode cX10_line 120 = .ok (.iaload, 1) := by decide +kernel
theorem dX10_line_121 : decode cX10_line 121 = .ok (.bipush 6, 2) := by decide +kernel
theorem dX10_line_123 : decode cX10_line 123 = .ok (.if_icmp .ne 22, 3) := by decide +kernel
theorem dX10_line_168 : decode cX10_line 168 = .ok (.iload_n 3, 1) := by decide +kernel
theorem dX10_line_169 : decode cX10_line 169 = .ok (.ifCond .eq 10, 3) := by decide +kernel
theorem dX10_line_172 : decode cX10_line 172 = .ok (.aload_n 0, 1) := by decide +kernel
theorem dX10_line_173 : decode cX10_line 173 = .ok (.invokevirtual 242, 3) := by decide +kernel
theorem dX10_line_176 : decode cX10_line 176 = .ok (.goto 7, 3) := by decide +kernel
theorem dX10_line_126 : decode cX10_line 126 = .ok (.goto 14, 3) := by decide +kernel
theorem dX10_line_79 : decode cX10_line 79 = .ok (.aload_n 0, 1) := by decide +kernel
theorem dX10_line_80 : decode cX10_line 80 = .ok (.ldc2_w 237, 3) := by decide +kernel
theorem dX10_line_83 : decode cX10_line 83 = .ok (.invokevirtual 169, 3) := by decide +kernel
theorem dX10_line_86 : decode cX10_line 86 = .ok (.ifCond .ne 8, 3) := by decide +kernel
theorem dX10_line_129 : decode cX10_line 129 = .ok (.aload_n 0, 1) := by decide +kernel
theorem dX10_line_130 : decode cX10_line 130 = .ok (.getfield 49, 3) := by decide +kernel
theorem dX10_line_133 : decode cX10_line 133 = .ok (.iconst 4, 1) := by decide +kernel
theorem dX10_line_134 : decode cX10_line 134 = .ok (.iaload, 1) := by decide +kernel
theorem dX10_line_135 : decode cX10_line 135 = .ok (.bipush 8, 2) := by decide +kernel
theorem dX10_line_137 : decode cX10_line 137 = .ok (.if_icmp .ne 8, 3) := by decide +kernel
theorem dX10_line_179 : decode cX10_line 179 = .ok (.aload_n 0, 1) := by decide +kernel
theorem dX10_line_180 : decode cX10_line 180 = .ok (.invokevirtual 245, 3) := by decide +kernel
theorem dX10_line_89 : decode cX10_line 89 = .ok (.aload_n 0, 1) := by decide +kernel
theorem dX10_line_90 : decode cX10_line 90 = .ok (.iconst 1, 1) := by decide +kernel
theorem dX10_line_91 : decode cX10_line 91 = .ok (.invokevirtual 179, 3) := by decide +kernel
theorem dX10_clears_0 : decode cX10_clears 0 = .ok (.aload_n 0, 1) := by decide +kernel
theorem dX10_clears_1 : decode cX10_clears 1 = .ok (.getfield 31, 3) := by decide +kernel
theorem dX10_clears_4 : decode cX10_clears 4 = .ok (.iconst 4, 1) := by decide +kernel
theorem dX10_clears_5 : decode cX10_clears 5 = .ok (.iconst 0, 1) := by decide +kernel
theorem dX10_clears_6 : decode cX10_clears 6 = .ok (.iastore, 1) := by decide +kernel
theorem dX10_clears_7 : decode cX10_clears 7 = .ok (.iconst 0, 1) := by decide +kernel
theorem dX10_clears_8 : decode cX10_clears 8 = .ok (.istore_n 1, 1) := by decide +kernel
theorem dX10_clears_9 : decode cX10_clears 9 = .ok (.iload_n 1, 1) := by decide +kernel
theorem dX10_clears_10 : decode cX10_clears 10 = .ok (.iconst 4, 1) := by decide +kernel
theorem dX10_clears_11 : decode cX10_clears 11 = .ok (.if_icmp .ge 19, 3) := by decide +kernel
theorem dX10_clears_30 : decode cX10_clears 30 = .ok (.aload_n 0, 1) := by decide +kernel
theorem dX10_clears_31 : decode cX10_clears 31 = .ok (.getfield 37, 3) := by decide +kernel
theorem dX10_clears_34 : decode cX10_clears 34 = .ok (.iconst 4, 1) := by decide +kernel
theorem dX10_clears_35 : decode cX10_clears 35 = .ok (.iconst 0, 1) := by decide +kernel
theorem dX10_clears_36 : decode cX10_clears 36 = .ok (.iastore, 1) := by decide +kernel
theorem dX10_clears_37 : decode cX10_clears 37 = .ok (.aload_n 0, 1) := by decide +kernel
theorem dX10_clears_38 : decode cX10_clears 38 = .ok (.getfield 43, 3) := by decide +kernel
theorem dX10_clears_41 : decode cX10_clears 41 = .ok (.iconst 4, 1) := by decide +kernel
theorem dX10_clears_42 : decode cX10_clears 42 = .ok (.iconst 0, 1) := by decide +kernel
theorem dX10_clears_43 : decode cX10_clears 43 = .ok (.iastore, 1) := by decide +kernel
theorem dX10_clears_44 : decode cX10_clears 44 = .ok (.aload_n 0, 1) := by decide +kernel
theorem dX10_clears_45 : decode cX10_clears 45 = .ok (.getfield 49, 3) := by decide +kernel
theorem dX10_clears_48 : decode cX10_clears 48 = .ok (.iconst 4, 1) := by decide +kernel
theorem dX10_clears_49 : decode cX10_clears 49 = .ok (.iconst 0, 1) := by decide +kernel
theorem dX10_clears_50 : decode cX10_clears 50 = .ok (.iastore, 1) := by decide +kernel
theorem dX10_clears_51 : decode cX10_clears 51 = .ok (.iconst 0, 1) := by decide +kernel
theorem dX10_clears_52 : decode cX10_clears 52 = .ok (.istore_n 1, 1) := by decide +kernel
theorem dX10_clears_53 : decode cX10_clears 53 = .ok (.iload_n 1, 1) := by decide +kernel
theorem dX10_clears_54 : decode cX10_clears 54 = .ok (.bipush 6, 2) := by decide +kernel
theorem dX10_clears_56 : decode cX10_clears 56 = .ok (.if_icmp .ge 37, 3) := by decide +kernel
theorem dX10_clears_93 : decode cX10_clears 93 = .ok (.iconst 0, 1) := by decide +kernel
theorem dX10_clears_94 : decode cX10_clears 94 = .ok (.istore_n 1, 1) := by decide +kernel
theorem dX10_clears_95 : decode cX10_clears 95 = .ok (.iload_n 1, 1) := by decide +kernel
theorem dX10_clears_96 : decode cX10_clears 96 = .ok (.iconst 3, 1) := by decide +kernel
theorem dX10_clears_97 : decode cX10_clears 97 = .ok (.if_icmp .ge 19, 3) := by decide +kernel
theorem dX10_clears_116 : decode cX10_clears 116 = .ok (.return_, 1) := by decide +kernel
theorem dX10_clears_100 : decode cX10_clears 100 = .ok (.aload_n 0, 1) := by decide +kernel
theorem dX10_clears_101 : decode cX10_clears 101 = .ok (.getfield 58, 3) := by decide +kernel
theorem dX10_clears_104 : decode cX10_clears 104 = .ok (.bipush 12, 2) := by decide +kernel
theorem dX10_clears_106 : decode cX10_clears 106 = .ok (.iload_n 1, 1) := by decide +kernel
theorem dX10_clears_107 : decode cX10_clears 107 = .ok (.iadd, 1) := by decide +kernel
theorem dX10_clears_108 : decode cX10_clears 108 = .ok (.iconst 0, 1) := by decide +kernel
theorem dX10_clears_109 : decode cX10_clears 109 = .ok (.bastore, 1) := by decide +kernel
theorem dX10_clears_110 : decode cX10_clears 110 = .ok (.iinc 1 1, 3) := by decide +kernel
theorem dX10_clears_113 : decode cX10_clears 113 = .ok (.goto (-18), 3) := by decide +kernel
theorem dX10_clears_59 : decode cX10_clears 59 = .ok (.aload_n 0, 1) := by decide +kernel
theorem dX10_clears_60 : decode cX10_clears 60 = .ok (.getfield 55, 3) := by decide +kernel
theorem dX10_clears_63 : decode cX10_clears 63 = .ok (.bipush 24, 2) := by decide +kernel
theorem dX10_clears_65 : decode cX10_clears 65 = .ok (.iload_n 1, 1) := by decide +kernel
theorem dX10_clears_66 : decode cX10_clears 66 = .ok (.iadd, 1) := by decide +kernel
theorem dX10_clears_67 : decode cX10_clears 67 = .ok (.iload_n 1, 1) := by decide +kernel
theorem dX10_clears_68 : decode cX10_clears 68 = .ok (.ifCond .ne 7, 3) := by decide +kernel
theorem dX10_clears_75 : decode cX10_clears 75 = .ok (.iload_n 1, 1) := by decide +kernel
theorem dX10_clears_76 : decode cX10_clears 76 = .ok (.iconst 1, 1) := by decide +kernel
theorem dX10_clears_77 : decode cX10_clears 77 = .ok (.if_icmp .ne 8, 3) := by decide +kernel
theorem dX10_clears_85 : decode cX10_clears 85 = .ok (.iconst 0, 1) := by decide +kernel
theorem dX10_clears_86 : decode cX10_clears 86 = .ok (.iastore, 1) := by decide +kernel
theorem dX10_clears_87 : decode cX10_clears 87 = .ok (.iinc 1 1, 3) := by decide +kernel
theorem dX10_clears_90 : decode cX10_clears 90 = .ok (.goto (-37), 3) := by decide +kernel
theorem dX10_clears_80 : decode cX10_clears 80 = .ok (.bipush 10, 2) := by decide +kernel
theorem dX10_clears_82 : decode cX10_clears 82 = .ok (.goto 4, 3) := by decide +kernel
theorem dX10_clears_71 : decode cX10_clears 71 = .ok (.iconst 1, 1) := by decide +kernel
theorem dX10_clears_72 : decode cX10_clears 72 = .ok (.goto 14, 3) := by decide +kernel
theorem dX10_clears_14 : decode cX10_clears 14 = .ok (.aload_n 0, 1) := by decide +kernel
theorem dX10_clears_15 : decode cX10_clears 15 = .ok (.getfield 34, 3) := by decide +kernel
theorem dX10_clears_18 : decode cX10_clears 18 = .ok (.bipush 16, 2) := by decide +kernel
theorem dX10_clears_20 : decode cX10_clears 20 = .ok (.iload_n 1, 1) := by decide +kernel
theorem dX10_clears_21 : decode cX10_clears 21 = .ok (.iadd, 1) := by decide +kernel
theorem dX10_clears_22 : decode cX10_clears 22 = .ok (.iconst 0, 1) := by decide +kernel
theorem dX10_clears_23 : decode cX10_clears 23 = .ok (.iastore, 1) := by decide +kernel
theorem dX10_clears_24 : decode cX10_clears 24 = .ok (.iinc 1 1, 3) := by decide +kernel
theorem dX10_clears_27 : decode cX10_clears 27 = .ok (.goto (-18), 3) := by decide +kernel
theorem dX10_copyRow_0 : decode cX10_copyRow 0 = .ok (.iconst 0, 1) := by decide +kernel
theorem dX10_copyRow_1 : decode cX10_copyRow 1 = .ok (.istore 4, 2) := by decide +kernel
theorem dX10_copyRow_3 : decode cX10_copyRow 3 = .ok (.iload 4, 2) := by decide +kernel
theorem dX10_copyRow_5 : decode cX10_copyRow 5 = .ok (.iload_n 1, 1) := by decide +kernel
theorem dX10_copyRow_6 : decode cX10_copyRow 6 = .ok (.if_icmp .ge 25, 3) := by decide +kernel
theorem dX10_copyRow_31 : decode cX10_copyRow 31 = .ok (.return_, 1) := by decide +kernel
theorem dX10_copyRow_9 : decode cX10_copyRow 9 = .ok (.aload_n 0, 1) := by decide +kernel
theorem dX10_copyRow_10 : decode cX10_copyRow 10 = .ok (.iload_n 1, 1) := by decide +kernel
theorem dX10_copyRow_11 : decode cX10_copyRow 11 = .ok (.iload_n 3, 1) := by decide +kernel
theorem dX10_copyRow_12 : decode cX10_copyRow 12 = .ok (.imul, 1) := by decide +kernel
theorem dX10_copyRow_13 : decode cX10_copyRow 13 = .ok (.iload 4, 2) := by decide +kernel
theorem dX10_copyRow_15 : decode cX10_copyRow 15 = .ok (.iadd, 1) := by decide +kernel
theorem dX10_copyRow_16 : decode cX10_copyRow 16 = .ok (.aload_n 0, 1) := by decide +kernel
theorem dX10_copyRow_17 : decode cX10_copyRow 17 = .ok (.iload_n 1, 1) := by decide +kernel
theorem dX10_copyRow_18 : decode cX10_copyRow 18 = .ok (.iload_n 2, 1) := by decide +kernel
theorem dX10_copyRow_19 : decode cX10_copyRow 19 = .ok (.imul, 1) := by decide +kernel
theorem dX10_copyRow_20 : decode cX10_copyRow 20 = .ok (.iload 4, 2) := by decide +kernel
theorem dX10_copyRow_22 : decode cX10_copyRow 22 = .ok (.iadd, 1) := by decide +kernel
theorem dX10_copyRow_23 : decode cX10_copyRow 23 = .ok (.iaload, 1) := by decide +kernel
theorem dX10_copyRow_24 : decode cX10_copyRow 24 = .ok (.iastore, 1) := by decide +kernel
theorem dX10_copyRow_25 : decode cX10_copyRow 25 = .ok (.iinc 4 1, 3) := by decide +kernel
theorem dX10_copyRow_28 : decode cX10_copyRow 28 = .ok (.goto (-25), 3) := by decide +kernel
theorem sV_X10_230 : SiteV RX10 230 yX10_onceLine cX10_onceLine 3 none 1 := ⟨ml_X10_230, im_X10_onceLine, se_X10_onceLine, ini_X10, co_X10_onceLine, by decide +kernel⟩
theorem sV_X10_239 : SiteV RX10 239 yX10_thingLine cX10_thingLine 2 none 0 := ⟨ml_X10_239, im_X10_thingLine, se_X10_thingLine, ini_X10, co_X10_thingLine, by decide +kernel⟩
theorem sV_X10_242 : SiteV RX10 242 yX10_valleyLine cX10_valleyLine 3 none 0 := ⟨ml_X10_242, im_X10_valleyLine, se_X10_valleyLine, ini_X10, co_X10_valleyLine, by decide +kernel⟩
theorem sV_X10_245 : SiteV RX10 245 yX10_pathLine cX10_pathLine 6 none 0 := ⟨ml_X10_245, im_X10_pathLine, se_X10_pathLine, ini_X10, co_X10_pathLine, by decide +kernel⟩
theorem cp_step {f g : Nat → Int32} {A B k : Nat} (F : ∀ j, g j = if B ≤ j ∧ j < B + k then f (A + (j - B)) else f j) (hs : ¬ (B ≤ A + k ∧ A + k < B + k)) : ∀ j, (upd g (B + k) (g (A + k))) j = if B ≤ j ∧ j < B + (k + 1) then f (A + (j - B)) else f j := by
  intro j
  unfold upd
  by_cases h : j = B + k
  · rw [if_pos h, F (A + k), if_neg hs, if_pos (by omega), show A + (j - B) = A + k by omega]
  · rw [if_neg h, F j]
    by_cases h2 : B ≤ j ∧ j < B + k
    · rw [if_pos h2, if_pos (by omega)]
    · rw [if_neg h2, if_neg (by omega)]
set_option maxHeartbeats 4000000 in
set_option maxRecDepth 100000 in
theorem t_X10_line (l : Launch) (D : va_G) (cy : Nat → ClassId) (base : Nat) (τ : Nat → Nat) (G : Gh) (a : Nat) (h_a : τ a = 11) (sa : Nat) (h_sa : τ sa = 74) (e_sa : G.2.2.1 a 24 = some sa) (tp : Int32) (e_tp : tp = G.1 a 6) (r_tp : 0 ≤ tp.toInt ∧ tp.toInt ≤ 1600) (a0 : Int32) (e_a0 : a0 = G.1 a 7) (r_a0 : 0 ≤ a0.toInt ∧ a0.toInt ≤ 1600) (sc : Int32) (e_sc : sc = G.1 sa 25) (r_sc : 1 ≤ sc.toInt ∧ sc.toInt ≤ 50) (hat : a0.toInt ≤ tp.toInt) : MM l yX10_line cX10_line 4 none 6 0 0 D cy [.ref a] (PT D cy base τ G) (QT D cy base τ G [11, 68, 69, 70, 71, 72, 73, 74, 75] (fun v g => v = none ∧ ((a0.toInt ≤ (g.1 a 7).toInt) ∧ ((g.1 a 7).toInt ≤ tp.toInt) ∧ (1 ≤ (g.1 sa 25).toInt) ∧ g.1 a 6 = G.1 a 6))) (RA base) := by
  refine MM.of (by decide) (Nat.le_of_ble_eq_true rfl) ?_
  intro p e s m below meth c C hPT ls hl
  obtain ⟨hx, hb, hr, hml, hown, hts, hlocks, hK, hnm⟩ := C
  obtain ⟨hZ, hT⟩ := hPT
  have hS : va_S (RA base) s.heap s.heap [] := va_S.rf
  have hF : Fr τ [11, 68, 69, 70, 71, 72, 73, 74, 75] G G := Fr.rf
  have hl : lv_has ls 4 [(0, .ref a)] := hl
  refine lv_aload_n hx hb dX10_line_0 rfl (lv_at hl 0 rfl) ?_
  refine lv_ldc2 (v := 6686170) hx hb hown (hts _ kl_X10_224) dX10_line_1 ?_
  obtain ⟨z_1, ez_1⟩ : ∃ y : Int32, y = G.1 a 12 := ⟨_, rfl⟩
  obtain ⟨z_2, ez_2⟩ : ∃ y : Int32, y = G.1 a 8 := ⟨_, rfl⟩
  refine pu_calli (runV (As := [.long 6686170]) (rest := []) ⟨hx, hb, hml, hown, hts⟩ (t_X10_is l D cy base τ G a h_a 6686170 z_1 ez_1 z_2 ez_2) sV_X10_169 hK (t_recv cf_11 hK hT h_a) ⟨Nat.le_trans hZ hS.1, hT⟩ ⟨Nat.le_of_ble_eq_true rfl, Nat.le_of_ble_eq_true rfl⟩ rfl hl.1 rfl (Nat.le_of_ble_eq_true rfl) dX10_line_4 ⟨Nat.le_of_ble_eq_true rfl, Nat.le_of_ble_eq_true rfl⟩) (fun r_3 hr_3 => ?_)
  have hr_3_c := hr_3
  rcases hr_3_c with hr_3_0 | hr_3_1
  · skip
    obtain ⟨er_3, hr_3_0_f0, hr_3_0_f1⟩ := hr_3_0
    have hr_3_0_f0 : z_1.toInt = 0 := hr_3_0_f0
    have hr_3_0_f1 : z_2.toInt = 1 := hr_3_0_f1
    subst er_3
    refine W.eq (g2 := F0 m 7 ls [.int 1]) rfl ?_
    refine lv_if_eq (tgt := 14) hx hb dX10_line_7 (by decide) (fun c_4 => absurd c_4 (by decide)) (fun _ => ?_)
    refine lv_iconst (v := 0) hx hb dX10_line_10 (by decide) ?_
    refine lv_goto (tgt := 43) hx hb dX10_line_11 (by decide) ?_
    refine lv_istore_n (lv' := [(1, .int 0), (0, .ref a)]) hx hb dX10_line_43 rfl hl (by decide) rfl (fun ls hl => ?_)
    refine lv_iload_n hx hb dX10_line_44 rfl (lv_at hl 0 rfl) ?_
    refine lv_iconst (v := (-1)) hx hb dX10_line_45 (by decide) ?_
    refine lv_icmp_eq (tgt := 55) hx hb dX10_line_46 (by decide) (fun c_5 => absurd c_5 (by decide)) (fun _ => ?_)
    refine lv_aload_n hx hb dX10_line_49 rfl (lv_at hl 1 rfl) ?_
    refine lv_iload_n hx hb dX10_line_50 rfl (lv_at hl 0 rfl) ?_
    refine t_callv (runV (As := [.int 0]) (rest := []) ⟨hx, hb, hml, hown, hts⟩ (t_X10_onceLine l D cy base τ G a h_a 0 (by decide) sa h_sa e_sa tp e_tp ⟨by omega, by omega⟩ a0 e_a0 ⟨by omega, by omega⟩ sc e_sc ⟨by omega, by omega⟩ (by show a0.toInt ≤ tp.toInt; first | assumption | omega | decide)) sV_X10_230 hK (t_recv cf_11 hK hT h_a) ⟨Nat.le_trans hZ hS.1, hT⟩ ⟨Nat.le_of_ble_eq_true rfl, Nat.le_of_ble_eq_true rfl⟩ rfl hl.1 rfl (Nat.le_of_ble_eq_true rfl) dX10_line_51 ⟨Nat.le_of_ble_eq_true rfl, Nat.le_of_ble_eq_true rfl⟩) hS (fun G_6 H locs hF_6 hr_6 hT hS => ?_)
    have hF := hF.tr hF_6 rfl
    obtain ⟨hr_6_p0, hr_6_p1, hr_6_p2, hr_6_s0⟩ := hr_6
    have k_12 : tp = G_6.1 a 6 := e_tp.trans hr_6_s0.symm
    obtain ⟨z_13, z_14, ez_13, ez_14, hr_6_p0, hr_6_p1, hr_6_p2⟩ : ∃ z_13 z_14 : Int32, z_13 = G_6.1 a 7 ∧ z_14 = G_6.1 sa 25 ∧ (a0.toInt ≤ z_13.toInt) ∧ (z_13.toInt ≤ tp.toInt) ∧ (1 ≤ z_14.toInt) := ⟨_, _, rfl, rfl, hr_6_p0, hr_6_p1, hr_6_p2⟩
    have rz_13 : 0 ≤ z_13.toInt ∧ z_13.toInt ≤ 1600 := by rw [ez_13]; exact hT.rgi h_a (by decide) 7
    exact ret_v hx hb hr hlocks ⟨⟨hS.1, hS.2.1⟩, G_6, hF, ⟨rfl, ⟨(by first | (show a0.toInt ≤ (G_6.1 a 7).toInt; rw [← ez_13]; done) | (show a0.toInt ≤ (G_6.1 a 7).toInt; rw [← ez_13]; show a0.toInt ≤ z_13.toInt; first | omega | assumption)), (by first | (show (G_6.1 a 7).toInt ≤ tp.toInt; rw [← ez_13]; done) | (show (G_6.1 a 7).toInt ≤ tp.toInt; rw [← ez_13]; show z_13.toInt ≤ tp.toInt; first | omega | assumption)), (by first | (show 1 ≤ (G_6.1 sa 25).toInt; rw [← ez_14]; done) | (show 1 ≤ (G_6.1 sa 25).toInt; rw [← ez_14]; show 1 ≤ z_14.toInt; first | omega | assumption)), (k_12.symm.trans e_tp)⟩⟩, hT⟩ hS.2.2 (Nat.le_of_ble_eq_true rfl) (Nat.le_of_ble_eq_true rfl) dX10_line_54
  · skip
    have er_3 := hr_3_1
    subst er_3
    refine W.eq (g2 := F0 m 7 ls [.int 0]) rfl ?_
    refine lv_if_eq (tgt := 14) hx hb dX10_line_7 (by decide) (fun _ => ?_) (fun c_15 => absurd (by decide) c_15)
    refine lv_aload_n hx hb dX10_line_14 rfl (lv_at hl 0 rfl) ?_
    refine lv_ldc2 (v := 8740364) hx hb hown (hts _ kl_X10_226) dX10_line_15 ?_
    refine pu_calli (runV (As := [.long 8740364]) (rest := []) ⟨hx, hb, hml, hown, hts⟩ (t_X10_is l D cy base τ G a h_a 8740364 z_1 ez_1 z_2 ez_2) sV_X10_169 hK (t_recv cf_11 hK hT h_a) ⟨Nat.le_trans hZ hS.1, hT⟩ ⟨Nat.le_of_ble_eq_true rfl, Nat.le_of_ble_eq_true rfl⟩ rfl hl.1 rfl (Nat.le_of_ble_eq_true rfl) dX10_line_18 ⟨Nat.le_of_ble_eq_true rfl, Nat.le_of_ble_eq_true rfl⟩) (fun r_16 hr_16 => ?_)
    have hr_16_c := hr_16
    rcases hr_16_c with hr_16_0 | hr_16_1
    · skip
      obtain ⟨er_16, hr_16_0_f0, hr_16_0_f1⟩ := hr_16_0
      have hr_16_0_f0 : z_1.toInt = 0 := hr_16_0_f0
      have hr_16_0_f1 : z_2.toInt = 1 := hr_16_0_f1
      subst er_16
      refine W.eq (g2 := F0 m 21 ls [.int 1]) rfl ?_
      refine lv_if_eq (tgt := 28) hx hb dX10_line_21 (by decide) (fun c_17 => absurd c_17 (by decide)) (fun _ => ?_)
      refine lv_iconst (v := 1) hx hb dX10_line_24 (by decide) ?_
      refine lv_goto (tgt := 43) hx hb dX10_line_25 (by decide) ?_
      refine lv_istore_n (lv' := [(1, .int 1), (0, .ref a)]) hx hb dX10_line_43 rfl hl (by decide) rfl (fun ls hl => ?_)
      refine lv_iload_n hx hb dX10_line_44 rfl (lv_at hl 0 rfl) ?_
      refine lv_iconst (v := (-1)) hx hb dX10_line_45 (by decide) ?_
      refine lv_icmp_eq (tgt := 55) hx hb dX10_line_46 (by decide) (fun c_18 => absurd c_18 (by decide)) (fun _ => ?_)
      refine lv_aload_n hx hb dX10_line_49 rfl (lv_at hl 1 rfl) ?_
      refine lv_iload_n hx hb dX10_line_50 rfl (lv_at hl 0 rfl) ?_
      refine t_callv (runV (As := [.int 1]) (rest := []) ⟨hx, hb, hml, hown, hts⟩ (t_X10_onceLine l D cy base τ G a h_a 1 (by decide) sa h_sa e_sa tp e_tp ⟨by omega, by omega⟩ a0 e_a0 ⟨by omega, by omega⟩ sc e_sc ⟨by omega, by omega⟩ (by show a0.toInt ≤ tp.toInt; first | assumption | omega | decide)) sV_X10_230 hK (t_recv cf_11 hK hT h_a) ⟨Nat.le_trans hZ hS.1, hT⟩ ⟨Nat.le_of_ble_eq_true rfl, Nat.le_of_ble_eq_true rfl⟩ rfl hl.1 rfl (Nat.le_of_ble_eq_true rfl) dX10_line_51 ⟨Nat.le_of_ble_eq_true rfl, Nat.le_of_ble_eq_true rfl⟩) hS (fun G_19 H locs hF_19 hr_19 hT hS => ?_)
      have hF := hF.tr hF_19 rfl
      obtain ⟨hr_19_p0, hr_19_p1, hr_19_p2, hr_19_s0⟩ := hr_19
      have k_25 : tp = G_19.1 a 6 := e_tp.trans hr_19_s0.symm
      obtain ⟨z_26, z_27, ez_26, ez_27, hr_19_p0, hr_19_p1, hr_19_p2⟩ : ∃ z_26 z_27 : Int32, z_26 = G_19.1 a 7 ∧ z_27 = G_19.1 sa 25 ∧ (a0.toInt ≤ z_26.toInt) ∧ (z_26.toInt ≤ tp.toInt) ∧ (1 ≤ z_27.toInt) := ⟨_, _, rfl, rfl, hr_19_p0, hr_19_p1, hr_19_p2⟩
      have rz_26 : 0 ≤ z_26.toInt ∧ z_26.toInt ≤ 1600 := by rw [ez_26]; exact hT.rgi h_a (by decide) 7
      exact ret_v hx hb hr hlocks ⟨⟨hS.1, hS.2.1⟩, G_19, hF, ⟨rfl, ⟨(by first | (show a0.toInt ≤ (G_19.1 a 7).toInt; rw [← ez_26]; done) | (show a0.toInt ≤ (G_19.1 a 7).toInt; rw [← ez_26]; show a0.toInt ≤ z_26.toInt; first | omega | assumption)), (by first | (show (G_19.1 a 7).toInt ≤ tp.toInt; rw [← ez_26]; done) | (show (G_19.1 a 7).toInt ≤ tp.toInt; rw [← ez_26]; show z_26.toInt ≤ tp.toInt; first | omega | assumption)), (by first | (show 1 ≤ (G_19.1 sa 25).toInt; rw [← ez_27]; done) | (show 1 ≤ (G_19.1 sa 25).toInt; rw [← ez_27]; show 1 ≤ z_27.toInt; first | omega | assumption)), (k_25.symm.trans e_tp)⟩⟩, hT⟩ hS.2.2 (Nat.le_of_ble_eq_true rfl) (Nat.le_of_ble_eq_true rfl) dX10_line_54
    · skip
      have er_16 := hr_16_1
      subst er_16
      refine W.eq (g2 := F0 m 21 ls [.int 0]) rfl ?_
      refine lv_if_eq (tgt := 28) hx hb dX10_line_21 (by decide) (fun _ => ?_) (fun c_28 => absurd (by decide) c_28)
      refine lv_aload_n hx hb dX10_line_28 rfl (lv_at hl 0 rfl) ?_
      refine lv_ldc2 (v := 271517) hx hb hown (hts _ kl_X10_228) dX10_line_29 ?_
      refine pu_calli (runV (As := [.long 271517]) (rest := []) ⟨hx, hb, hml, hown, hts⟩ (t_X10_is l D cy base τ G a h_a 271517 z_1 ez_1 z_2 ez_2) sV_X10_169 hK (t_recv cf_11 hK hT h_a) ⟨Nat.le_trans hZ hS.1, hT⟩ ⟨Nat.le_of_ble_eq_true rfl, Nat.le_of_ble_eq_true rfl⟩ rfl hl.1 rfl (Nat.le_of_ble_eq_true rfl) dX10_line_32 ⟨Nat.le_of_ble_eq_true rfl, Nat.le_of_ble_eq_true rfl⟩) (fun r_29 hr_29 => ?_)
      have hr_29_c := hr_29
      rcases hr_29_c with hr_29_0 | hr_29_1
      · skip
        obtain ⟨er_29, hr_29_0_f0, hr_29_0_f1⟩ := hr_29_0
        have hr_29_0_f0 : z_1.toInt = 0 := hr_29_0_f0
        have hr_29_0_f1 : z_2.toInt = 1 := hr_29_0_f1
        subst er_29
        refine W.eq (g2 := F0 m 35 ls [.int 1]) rfl ?_
        refine lv_if_eq (tgt := 42) hx hb dX10_line_35 (by decide) (fun c_30 => absurd c_30 (by decide)) (fun _ => ?_)
        refine lv_iconst (v := 2) hx hb dX10_line_38 (by decide) ?_
        refine lv_goto (tgt := 43) hx hb dX10_line_39 (by decide) ?_
        refine lv_istore_n (lv' := [(1, .int 2), (0, .ref a)]) hx hb dX10_line_43 rfl hl (by decide) rfl (fun ls hl => ?_)
        refine lv_iload_n hx hb dX10_line_44 rfl (lv_at hl 0 rfl) ?_
        refine lv_iconst (v := (-1)) hx hb dX10_line_45 (by decide) ?_
        refine lv_icmp_eq (tgt := 55) hx hb dX10_line_46 (by decide) (fun c_31 => absurd c_31 (by decide)) (fun _ => ?_)
        refine lv_aload_n hx hb dX10_line_49 rfl (lv_at hl 1 rfl) ?_
        refine lv_iload_n hx hb dX10_line_50 rfl (lv_at hl 0 rfl) ?_
        refine t_callv (runV (As := [.int 2]) (rest := []) ⟨hx, hb, hml, hown, hts⟩ (t_X10_onceLine l D cy base τ G a h_a 2 (by decide) sa h_sa e_sa tp e_tp ⟨by omega, by omega⟩ a0 e_a0 ⟨by omega, by omega⟩ sc e_sc ⟨by omega, by omega⟩ (by show a0.toInt ≤ tp.toInt; first | assumption | omega | decide)) sV_X10_230 hK (t_recv cf_11 hK hT h_a) ⟨Nat.le_trans hZ hS.1, hT⟩ ⟨Nat.le_of_ble_eq_true rfl, Nat.le_of_ble_eq_true rfl⟩ rfl hl.1 rfl (Nat.le_of_ble_eq_true rfl) dX10_line_51 ⟨Nat.le_of_ble_eq_true rfl, Nat.le_of_ble_eq_true rfl⟩) hS (fun G_32 H locs hF_32 hr_32 hT hS => ?_)
        have hF := hF.tr hF_32 rfl
        obtain ⟨hr_32_p0, hr_32_p1, hr_32_p2, hr_32_s0⟩ := hr_32
        have k_38 : tp = G_32.1 a 6 := e_tp.trans hr_32_s0.symm
        obtain ⟨z_39, z_40, ez_39, ez_40, hr_32_p0, hr_32_p1, hr_32_p2⟩ : ∃ z_39 z_40 : Int32, z_39 = G_32.1 a 7 ∧ z_40 = G_32.1 sa 25 ∧ (a0.toInt ≤ z_39.toInt) ∧ (z_39.toInt ≤ tp.toInt) ∧ (1 ≤ z_40.toInt) := ⟨_, _, rfl, rfl, hr_32_p0, hr_32_p1, hr_32_p2⟩
        have rz_39 : 0 ≤ z_39.toInt ∧ z_39.toInt ≤ 1600 := by rw [ez_39]; exact hT.rgi h_a (by decide) 7
        exact ret_v hx hb hr hlocks ⟨⟨hS.1, hS.2.1⟩, G_32, hF, ⟨rfl, ⟨(by first | (show a0.toInt ≤ (G_32.1 a 7).toInt; rw [← ez_39]; done) | (show a0.toInt ≤ (G_32.1 a 7).toInt; rw [← ez_39]; show a0.toInt ≤ z_39.toInt; first | omega | assumption)), (by first | (show (G_32.1 a 7).toInt ≤ tp.toInt; rw [← ez_39]; done) | (show (G_32.1 a 7).toInt ≤ tp.toInt; rw [← ez_39]; show z_39.toInt ≤ tp.toInt; first | omega | assumption)), (by first | (show 1 ≤ (G_32.1 sa 25).toInt; rw [← ez_40]; done) | (show 1 ≤ (G_32.1 sa 25).toInt; rw [← ez_40]; show 1 ≤ z_40.toInt; first | omega | assumption)), (k_38.symm.trans e_tp)⟩⟩, hT⟩ hS.2.2 (Nat.le_of_ble_eq_true rfl) (Nat.le_of_ble_eq_true rfl) dX10_line_54
      · skip
        have er_29 := hr_29_1
        subst er_29
        refine W.eq (g2 := F0 m 35 ls [.int 0]) rfl ?_
        refine lv_if_eq (tgt := 42) hx hb dX10_line_35 (by decide) (fun _ => ?_) (fun c_41 => absurd (by decide) c_41)
        refine lv_iconst (v := (-1)) hx hb dX10_line_42 (by decide) ?_
        refine lv_istore_n (lv' := [(1, .int (-1)), (0, .ref a)]) hx hb dX10_line_43 rfl hl (by decide) rfl (fun ls hl => ?_)
        refine lv_iload_n hx hb dX10_line_44 rfl (lv_at hl 0 rfl) ?_
        refine lv_iconst (v := (-1)) hx hb dX10_line_45 (by decide) ?_
        refine lv_icmp_eq (tgt := 55) hx hb dX10_line_46 (by decide) (fun _ => ?_) (fun c_42 => absurd (by decide) c_42)
        refine lv_aload_n hx hb dX10_line_55 rfl (lv_at hl 1 rfl) ?_
        refine lv_ldc2 (v := 10793230) hx hb hown (hts _ kl_X10_233) dX10_line_56 ?_
        refine pu_calli (runV (As := [.long 10793230]) (rest := []) ⟨hx, hb, hml, hown, hts⟩ (t_X10_is l D cy base τ G a h_a 10793230 z_1 ez_1 z_2 ez_2) sV_X10_169 hK (t_recv cf_11 hK hT h_a) ⟨Nat.le_trans hZ hS.1, hT⟩ ⟨Nat.le_of_ble_eq_true rfl, Nat.le_of_ble_eq_true rfl⟩ rfl hl.1 rfl (Nat.le_of_ble_eq_true rfl) dX10_line_59 ⟨Nat.le_of_ble_eq_true rfl, Nat.le_of_ble_eq_true rfl⟩) (fun r_43 hr_43 => ?_)
        have hr_43_c := hr_43
        rcases hr_43_c with hr_43_0 | hr_43_1
        · skip
          obtain ⟨er_43, hr_43_0_f0, hr_43_0_f1⟩ := hr_43_0
          have hr_43_0_f0 : z_1.toInt = 0 := hr_43_0_f0
          have hr_43_0_f1 : z_2.toInt = 1 := hr_43_0_f1
          subst er_43
          refine W.eq (g2 := F0 m 62 ls [.int 1]) rfl ?_
          refine lv_istore_n (lv' := [(2, .int 1), (1, .int (-1)), (0, .ref a)]) hx hb dX10_line_62 rfl hl (by decide) rfl (fun ls hl => ?_)
          refine lv_aload_n hx hb dX10_line_63 rfl (lv_at hl 2 rfl) ?_
          refine lv_ldc2 (v := 316452499) hx hb hown (hts _ kl_X10_235) dX10_line_64 ?_
          refine pu_calli (runV (As := [.long 316452499]) (rest := []) ⟨hx, hb, hml, hown, hts⟩ (t_X10_is l D cy base τ G a h_a 316452499 z_1 ez_1 z_2 ez_2) sV_X10_169 hK (t_recv cf_11 hK hT h_a) ⟨Nat.le_trans hZ hS.1, hT⟩ ⟨Nat.le_of_ble_eq_true rfl, Nat.le_of_ble_eq_true rfl⟩ rfl hl.1 rfl (Nat.le_of_ble_eq_true rfl) dX10_line_67 ⟨Nat.le_of_ble_eq_true rfl, Nat.le_of_ble_eq_true rfl⟩) (fun r_44 hr_44 => ?_)
          have hr_44_c := hr_44
          rcases hr_44_c with hr_44_0 | hr_44_1
          · skip
            obtain ⟨er_44, hr_44_0_f0, hr_44_0_f1⟩ := hr_44_0
            have hr_44_0_f0 : z_1.toInt = 0 := hr_44_0_f0
            have hr_44_0_f1 : z_2.toInt = 1 := hr_44_0_f1
            subst er_44
            refine W.eq (g2 := F0 m 70 ls [.int 1]) rfl ?_
            refine lv_istore_n (lv' := [(3, .int 1), (2, .int 1), (1, .int (-1)), (0, .ref a)]) hx hb dX10_line_70 rfl hl (by decide) rfl (fun ls hl => ?_)
            refine lv_iload_n hx hb dX10_line_71 rfl (lv_at hl 1 rfl) ?_
            refine lv_if_ne (tgt := 94) hx hb dX10_line_72 (by decide) (fun _ => ?_) (fun c_45 => absurd c_45 (by decide))
            refine lv_iload_n hx hb dX10_line_94 rfl (lv_at hl 1 rfl) ?_
            refine lv_if_eq (tgt := 111) hx hb dX10_line_95 (by decide) (fun c_46 => absurd c_46 (by decide)) (fun _ => ?_)
            refine lv_aload_n hx hb dX10_line_98 rfl (lv_at hl 3 rfl) ?_
            refine t_getr cf_11 hx hb hts hown hK hT h_a (k := 18) (P := fun q => τ q = 68) rfl (fun _ h9 => h9) fl_X10_37 (fun _ h9 => h9) dX10_line_99 (fun q_47 eq_47 hq_47 => ?_)
            refine lv_iconst (v := 4) hx hb dX10_line_102 (by decide) ?_
            refine t_iald (n := 5) (i := 4) rfl (by decide) hx hb hK hT hq_47 (hT.len hq_47 (by decide)) ⟨by decide, by decide⟩ dX10_line_103 (fun z_48 ez_48 rz_48 => ?_)
            have ez_48 : z_48 = G.1 q_47 4 := ez_48
            have rz_48 : 0 ≤ z_48.toInt ∧ z_48.toInt ≤ 3 := rz_48
            refine lv_iconst (v := 3) hx hb dX10_line_104 (by decide) ?_
            refine lv_icmp_ne (tgt := 145) hx hb dX10_line_105 (by decide) (fun c_49 => ?_) (fun c_49 => ?_)
            · skip
              have tc_49 : ¬ z_48.toInt = 3 := fun h => c_49 ((fa_eq _ _).mpr h)
              refine lv_aload_n hx hb dX10_line_145 rfl (lv_at hl 3 rfl) ?_
              refine t_geti cf_11 hx hb hts hown hK hT h_a (k := 12) rfl fl_X10_163 (fun _ h9 => h9) dX10_line_146 (fun z_50 ez_50 rz_50 => ?_)
              have w_51 : z_1 = z_50 := ez_1.trans ez_50.symm
              subst w_51
              refine lv_if_eq (tgt := 153) hx hb dX10_line_149 (by decide) (fun c_52 => ?_) (fun c_52 => ?_)
              · skip
                have tc_52 : z_1.toInt = 0 := (fa_eq _ _).mp c_52
                refine lv_aload_n hx hb dX10_line_153 rfl (lv_at hl 3 rfl) ?_
                obtain ⟨q_53, eq_53, hq_53⟩ := (show ∃ q, G.2.2.1 a 5 = some q ∧ τ q = 55 from hT.rgr h_a (by decide) 5)
                refine t_callv (runV (As := []) (rest := []) ⟨hx, hb, hml, hown, hts⟩ (t_X10_next l D cy base τ G a h_a q_53 hq_53 eq_53 tp e_tp ⟨by omega, by omega⟩ a0 e_a0 ⟨by omega, by omega⟩ z_1 ez_1 (by show a0.toInt ≤ tp.toInt; first | assumption | omega | decide)) sV_X10_173 hK (t_recv cf_11 hK hT h_a) ⟨Nat.le_trans hZ hS.1, hT⟩ ⟨Nat.le_of_ble_eq_true rfl, Nat.le_of_ble_eq_true rfl⟩ rfl hl.1 rfl (Nat.le_of_ble_eq_true rfl) dX10_line_154 ⟨Nat.le_of_ble_eq_true rfl, Nat.le_of_ble_eq_true rfl⟩) hS (fun G_54 H locs hF_54 hr_54 hT hS => ?_)
                have hF := hF.tr hF_54 rfl
                have k_57 : sc = G_54.1 sa 25 := e_sc.trans (hF_54.i h_sa (by decide) rfl _).symm
                have k_60 : z_48 = G_54.1 q_47 4 := ez_48.trans (hF_54.i hq_47 (by decide) rfl _).symm
                obtain ⟨hr_54_p0, hr_54_p1, hr_54_p2, hr_54_s0, hr_54_s1⟩ := hr_54
                have k_61 : tp = G_54.1 a 6 := e_tp.trans hr_54_s0.symm
                have k_62 : z_1 = G_54.1 a 12 := ez_1.trans hr_54_s1.symm
                obtain ⟨z_63, z_64, ez_63, ez_64, hr_54_p0, hr_54_p1, hr_54_p2⟩ : ∃ z_63 z_64 : Int32, z_63 = G_54.1 a 7 ∧ z_64 = G_54.1 a 8 ∧ (a0.toInt ≤ z_63.toInt) ∧ (z_63.toInt ≤ tp.toInt) ∧ (z_64.toInt = 0 ∨ a0.toInt < z_63.toInt) := ⟨_, _, rfl, rfl, hr_54_p0, hr_54_p1, hr_54_p2⟩
                have rz_63 : 0 ≤ z_63.toInt ∧ z_63.toInt ≤ 1600 := by rw [ez_63]; exact hT.rgi h_a (by decide) 7
                refine lv_iload_n hx hb dX10_line_157 rfl (lv_at hl 1 rfl) ?_
                refine lv_if_eq (tgt := 168) hx hb dX10_line_158 (by decide) (fun c_65 => absurd c_65 (by decide)) (fun _ => ?_)
                refine lv_aload_n hx hb dX10_line_161 rfl (lv_at hl 3 rfl) ?_
                refine t_callv (runV (As := []) (rest := []) ⟨hx, hb, hml, hown, hts⟩ (t_X10_thingLine l D cy base τ G_54 a h_a q_47 hq_47 ((hF.r h_a (by decide) rfl _).trans eq_47) tp k_61 ⟨by omega, by omega⟩ z_63 ez_63 ⟨by omega, by omega⟩ z_48 k_60 ⟨by omega, by omega⟩ (by show z_63.toInt ≤ tp.toInt; first | assumption | omega | decide)) sV_X10_239 hK (t_recv cf_11 hK hT h_a) ⟨Nat.le_trans hZ hS.1, hT⟩ ⟨Nat.le_of_ble_eq_true rfl, Nat.le_of_ble_eq_true rfl⟩ rfl hl.1 rfl (Nat.le_of_ble_eq_true rfl) dX10_line_162 ⟨Nat.le_of_ble_eq_true rfl, Nat.le_of_ble_eq_true rfl⟩) hS (fun G_66 H locs hF_66 hr_66 hT hS => ?_)
                have hF := hF.tr hF_66 rfl
                have k_67 : sc = G_66.1 sa 25 := k_57.trans (hF_66.i h_sa (by decide) rfl _).symm
                obtain ⟨hr_66_p0, hr_66_p1, hr_66_s0⟩ := hr_66
                have k_73 : tp = G_66.1 a 6 := k_61.trans hr_66_s0.symm
                obtain ⟨z_74, ez_74, hr_66_p0, hr_66_p1⟩ : ∃ z_74 : Int32, z_74 = G_66.1 a 7 ∧ (z_63.toInt ≤ z_74.toInt) ∧ (z_74.toInt ≤ tp.toInt) := ⟨_, rfl, hr_66_p0, hr_66_p1⟩
                have rz_74 : 0 ≤ z_74.toInt ∧ z_74.toInt ≤ 1600 := by rw [ez_74]; exact hT.rgi h_a (by decide) 7
                refine lv_goto (tgt := 183) hx hb dX10_line_165 (by decide) ?_
                exact ret_v hx hb hr hlocks ⟨⟨hS.1, hS.2.1⟩, G_66, hF, ⟨rfl, ⟨(by first | (show a0.toInt ≤ (G_66.1 a 7).toInt; rw [← ez_74]; done) | (show a0.toInt ≤ (G_66.1 a 7).toInt; rw [← ez_74]; show a0.toInt ≤ z_74.toInt; first | omega | assumption)), (by first | (show (G_66.1 a 7).toInt ≤ tp.toInt; rw [← ez_74]; done) | (show (G_66.1 a 7).toInt ≤ tp.toInt; rw [← ez_74]; show z_74.toInt ≤ tp.toInt; first | omega | assumption)), (by first | (show 1 ≤ (G_66.1 sa 25).toInt; rw [← k_67]; done) | (show 1 ≤ (G_66.1 sa 25).toInt; rw [← k_67]; show 1 ≤ sc.toInt; first | omega | assumption)), (k_73.symm.trans e_tp)⟩⟩, hT⟩ hS.2.2 (Nat.le_of_ble_eq_true rfl) (Nat.le_of_ble_eq_true rfl) dX10_line_183
              · skip
                have tc_52 : ¬ z_1.toInt = 0 := fun h => c_52 ((fa_eq _ _).mpr h)
                exfalso; omega
            · skip
              have tc_49 : z_48.toInt = 3 := (fa_eq _ _).mp c_49
              refine lv_goto (tgt := 140) hx hb dX10_line_108 (by decide) ?_
              refine lv_aload_n hx hb dX10_line_140 rfl (lv_at hl 3 rfl) ?_
              refine lv_iconst (v := 3) hx hb dX10_line_141 (by decide) ?_
              refine t_callv (runV (As := [.int 3]) (rest := []) ⟨hx, hb, hml, hown, hts⟩ (t_X10_fails l D cy base τ G a h_a 3 (by decide) tp e_tp ⟨by omega, by omega⟩ a0 e_a0 ⟨by omega, by omega⟩ z_2 ez_2 z_1 ez_1) sV_X10_179 hK (t_recv cf_11 hK hT h_a) ⟨Nat.le_trans hZ hS.1, hT⟩ ⟨Nat.le_of_ble_eq_true rfl, Nat.le_of_ble_eq_true rfl⟩ rfl hl.1 rfl (Nat.le_of_ble_eq_true rfl) dX10_line_142 ⟨Nat.le_of_ble_eq_true rfl, Nat.le_of_ble_eq_true rfl⟩) hS (fun G_75 H locs hF_75 hr_75 hT hS => ?_)
              have hF := hF.tr hF_75 rfl
              have k_78 : sc = G_75.1 sa 25 := e_sc.trans (hF_75.i h_sa (by decide) rfl _).symm
              have k_81 : z_48 = G_75.1 q_47 4 := ez_48.trans (hF_75.i hq_47 (by decide) rfl _).symm
              obtain ⟨hr_75_p0, hr_75_s0, hr_75_s1, hr_75_s2⟩ := hr_75
              have k_82 : tp = G_75.1 a 6 := e_tp.trans hr_75_s0.symm
              have k_83 : a0 = G_75.1 a 7 := e_a0.trans hr_75_s1.symm
              have k_84 : z_2 = G_75.1 a 8 := ez_2.trans hr_75_s2.symm
              obtain ⟨z_85, ez_85, hr_75_p0⟩ : ∃ z_85 : Int32, z_85 = G_75.1 a 12 ∧ (z_85.toInt ≠ 0) := ⟨_, rfl, hr_75_p0⟩
              refine lv_aload_n hx hb dX10_line_145 rfl (lv_at hl 3 rfl) ?_
              refine t_geti cf_11 hx hb hts hown hK hT h_a (k := 12) rfl fl_X10_163 (fun _ h9 => h9) dX10_line_146 (fun z_86 ez_86 rz_86 => ?_)
              have w_87 : z_85 = z_86 := ez_85.trans ez_86.symm
              subst w_87
              refine lv_if_eq (tgt := 153) hx hb dX10_line_149 (by decide) (fun c_88 => ?_) (fun c_88 => ?_)
              · skip
                have tc_88 : z_85.toInt = 0 := (fa_eq _ _).mp c_88
                refine lv_aload_n hx hb dX10_line_153 rfl (lv_at hl 3 rfl) ?_
                obtain ⟨q_89, eq_89, hq_89⟩ := (show ∃ q, G_75.2.2.1 a 5 = some q ∧ τ q = 55 from hT.rgr h_a (by decide) 5)
                have eq_89 := (hF.r h_a (by decide) rfl _).symm.trans eq_89
                refine t_callv (runV (As := []) (rest := []) ⟨hx, hb, hml, hown, hts⟩ (t_X10_next l D cy base τ G_75 a h_a q_89 hq_89 ((hF.r h_a (by decide) rfl _).trans eq_89) tp k_82 ⟨by omega, by omega⟩ a0 k_83 ⟨by omega, by omega⟩ z_85 ez_85 (by show a0.toInt ≤ tp.toInt; first | assumption | omega | decide)) sV_X10_173 hK (t_recv cf_11 hK hT h_a) ⟨Nat.le_trans hZ hS.1, hT⟩ ⟨Nat.le_of_ble_eq_true rfl, Nat.le_of_ble_eq_true rfl⟩ rfl hl.1 rfl (Nat.le_of_ble_eq_true rfl) dX10_line_154 ⟨Nat.le_of_ble_eq_true rfl, Nat.le_of_ble_eq_true rfl⟩) hS (fun G_90 H locs hF_90 hr_90 hT hS => ?_)
                have hF := hF.tr hF_90 rfl
                have k_91 : sc = G_90.1 sa 25 := k_78.trans (hF_90.i h_sa (by decide) rfl _).symm
                have k_92 : z_48 = G_90.1 q_47 4 := k_81.trans (hF_90.i hq_47 (by decide) rfl _).symm
                obtain ⟨hr_90_p0, hr_90_p1, hr_90_p2, hr_90_s0, hr_90_s1⟩ := hr_90
                have k_97 : tp = G_90.1 a 6 := k_82.trans hr_90_s0.symm
                have k_98 : z_85 = G_90.1 a 12 := ez_85.trans hr_90_s1.symm
                obtain ⟨z_99, z_100, ez_99, ez_100, hr_90_p0, hr_90_p1, hr_90_p2⟩ : ∃ z_99 z_100 : Int32, z_99 = G_90.1 a 7 ∧ z_100 = G_90.1 a 8 ∧ (a0.toInt ≤ z_99.toInt) ∧ (z_99.toInt ≤ tp.toInt) ∧ (z_100.toInt = 0 ∨ a0.toInt < z_99.toInt) := ⟨_, _, rfl, rfl, hr_90_p0, hr_90_p1, hr_90_p2⟩
                have rz_99 : 0 ≤ z_99.toInt ∧ z_99.toInt ≤ 1600 := by rw [ez_99]; exact hT.rgi h_a (by decide) 7
                refine lv_iload_n hx hb dX10_line_157 rfl (lv_at hl 1 rfl) ?_
                refine lv_if_eq (tgt := 168) hx hb dX10_line_158 (by decide) (fun c_101 => absurd c_101 (by decide)) (fun _ => ?_)
                refine lv_aload_n hx hb dX10_line_161 rfl (lv_at hl 3 rfl) ?_
                refine t_callv (runV (As := []) (rest := []) ⟨hx, hb, hml, hown, hts⟩ (t_X10_thingLine l D cy base τ G_90 a h_a q_47 hq_47 ((hF.r h_a (by decide) rfl _).trans eq_47) tp k_97 ⟨by omega, by omega⟩ z_99 ez_99 ⟨by omega, by omega⟩ z_48 k_92 ⟨by omega, by omega⟩ (by show z_99.toInt ≤ tp.toInt; first | assumption | omega | decide)) sV_X10_239 hK (t_recv cf_11 hK hT h_a) ⟨Nat.le_trans hZ hS.1, hT⟩ ⟨Nat.le_of_ble_eq_true rfl, Nat.le_of_ble_eq_true rfl⟩ rfl hl.1 rfl (Nat.le_of_ble_eq_true rfl) dX10_line_162 ⟨Nat.le_of_ble_eq_true rfl, Nat.le_of_ble_eq_true rfl⟩) hS (fun G_102 H locs hF_102 hr_102 hT hS => ?_)
                have hF := hF.tr hF_102 rfl
                have k_103 : sc = G_102.1 sa 25 := k_91.trans (hF_102.i h_sa (by decide) rfl _).symm
                obtain ⟨hr_102_p0, hr_102_p1, hr_102_s0⟩ := hr_102
                have k_109 : tp = G_102.1 a 6 := k_97.trans hr_102_s0.symm
                obtain ⟨z_110, ez_110, hr_102_p0, hr_102_p1⟩ : ∃ z_110 : Int32, z_110 = G_102.1 a 7 ∧ (z_99.toInt ≤ z_110.toInt) ∧ (z_110.toInt ≤ tp.toInt) := ⟨_, rfl, hr_102_p0, hr_102_p1⟩
                have rz_110 : 0 ≤ z_110.toInt ∧ z_110.toInt ≤ 1600 := by rw [ez_110]; exact hT.rgi h_a (by decide) 7
                refine lv_goto (tgt := 183) hx hb dX10_line_165 (by decide) ?_
                exact ret_v hx hb hr hlocks ⟨⟨hS.1, hS.2.1⟩, G_102, hF, ⟨rfl, ⟨(by first | (show a0.toInt ≤ (G_102.1 a 7).toInt; rw [← ez_110]; done) | (show a0.toInt ≤ (G_102.1 a 7).toInt; rw [← ez_110]; show a0.toInt ≤ z_110.toInt; first | omega | assumption)), (by first | (show (G_102.1 a 7).toInt ≤ tp.toInt; rw [← ez_110]; done) | (show (G_102.1 a 7).toInt ≤ tp.toInt; rw [← ez_110]; show z_110.toInt ≤ tp.toInt; first | omega | assumption)), (by first | (show 1 ≤ (G_102.1 sa 25).toInt; rw [← k_103]; done) | (show 1 ≤ (G_102.1 sa 25).toInt; rw [← k_103]; show 1 ≤ sc.toInt; first | omega | assumption)), (k_109.symm.trans e_tp)⟩⟩, hT⟩ hS.2.2 (Nat.le_of_ble_eq_true rfl) (Nat.le_of_ble_eq_true rfl) dX10_line_183
              · skip
                have tc_88 : ¬ z_85.toInt = 0 := fun h => c_88 ((fa_eq _ _).mpr h)
                exact ret_v hx hb hr hlocks ⟨⟨hS.1, hS.2.1⟩, G_75, hF, ⟨rfl, ⟨(by first | (show a0.toInt ≤ (G_75.1 a 7).toInt; rw [← k_83]; done) | (show a0.toInt ≤ (G_75.1 a 7).toInt; rw [← k_83]; show a0.toInt ≤ a0.toInt; first | omega | assumption)), (by first | (show (G_75.1 a 7).toInt ≤ tp.toInt; rw [← k_83]; done) | (show (G_75.1 a 7).toInt ≤ tp.toInt; rw [← k_83]; show a0.toInt ≤ tp.toInt; first | omega | assumption)), (by first | (show 1 ≤ (G_75.1 sa 25).toInt; rw [← k_78]; done) | (show 1 ≤ (G_75.1 sa 25).toInt; rw [← k_78]; show 1 ≤ sc.toInt; first | omega | assumption)), (k_82.symm.trans e_tp)⟩⟩, hT⟩ hS.2.2 (Nat.le_of_ble_eq_true rfl) (Nat.le_of_ble_eq_true rfl) dX10_line_152
          · skip
            have er_44 := hr_44_1
            subst er_44
            refine W.eq (g2 := F0 m 70 ls [.int 0]) rfl ?_
            refine lv_istore_n (lv' := [(3, .int 0), (2, .int 1), (1, .int (-1)), (0, .ref a)]) hx hb dX10_line_70 rfl hl (by decide) rfl (fun ls hl => ?_)
            refine lv_iload_n hx hb dX10_line_71 rfl (lv_at hl 1 rfl) ?_
            refine lv_if_ne (tgt := 94) hx hb dX10_line_72 (by decide) (fun _ => ?_) (fun c_111 => absurd c_111 (by decide))
            refine lv_iload_n hx hb dX10_line_94 rfl (lv_at hl 1 rfl) ?_
            refine lv_if_eq (tgt := 111) hx hb dX10_line_95 (by decide) (fun c_112 => absurd c_112 (by decide)) (fun _ => ?_)
            refine lv_aload_n hx hb dX10_line_98 rfl (lv_at hl 3 rfl) ?_
            refine t_getr cf_11 hx hb hts hown hK hT h_a (k := 18) (P := fun q => τ q = 68) rfl (fun _ h9 => h9) fl_X10_37 (fun _ h9 => h9) dX10_line_99 (fun q_113 eq_113 hq_113 => ?_)
            refine lv_iconst (v := 4) hx hb dX10_line_102 (by decide) ?_
            refine t_iald (n := 5) (i := 4) rfl (by decide) hx hb hK hT hq_113 (hT.len hq_113 (by decide)) ⟨by decide, by decide⟩ dX10_line_103 (fun z_114 ez_114 rz_114 => ?_)
            have ez_114 : z_114 = G.1 q_113 4 := ez_114
            have rz_114 : 0 ≤ z_114.toInt ∧ z_114.toInt ≤ 3 := rz_114
            refine lv_iconst (v := 3) hx hb dX10_line_104 (by decide) ?_
            refine lv_icmp_ne (tgt := 145) hx hb dX10_line_105 (by decide) (fun c_115 => ?_) (fun c_115 => ?_)
            · skip
              have tc_115 : ¬ z_114.toInt = 3 := fun h => c_115 ((fa_eq _ _).mpr h)
              refine lv_aload_n hx hb dX10_line_145 rfl (lv_at hl 3 rfl) ?_
              refine t_geti cf_11 hx hb hts hown hK hT h_a (k := 12) rfl fl_X10_163 (fun _ h9 => h9) dX10_line_146 (fun z_116 ez_116 rz_116 => ?_)
              have w_117 : z_1 = z_116 := ez_1.trans ez_116.symm
              subst w_117
              refine lv_if_eq (tgt := 153) hx hb dX10_line_149 (by decide) (fun c_118 => ?_) (fun c_118 => ?_)
              · skip
                have tc_118 : z_1.toInt = 0 := (fa_eq _ _).mp c_118
                refine lv_aload_n hx hb dX10_line_153 rfl (lv_at hl 3 rfl) ?_
                obtain ⟨q_119, eq_119, hq_119⟩ := (show ∃ q, G.2.2.1 a 5 = some q ∧ τ q = 55 from hT.rgr h_a (by decide) 5)
                refine t_callv (runV (As := []) (rest := []) ⟨hx, hb, hml, hown, hts⟩ (t_X10_next l D cy base τ G a h_a q_119 hq_119 eq_119 tp e_tp ⟨by omega, by omega⟩ a0 e_a0 ⟨by omega, by omega⟩ z_1 ez_1 (by show a0.toInt ≤ tp.toInt; first | assumption | omega | decide)) sV_X10_173 hK (t_recv cf_11 hK hT h_a) ⟨Nat.le_trans hZ hS.1, hT⟩ ⟨Nat.le_of_ble_eq_true rfl, Nat.le_of_ble_eq_true rfl⟩ rfl hl.1 rfl (Nat.le_of_ble_eq_true rfl) dX10_line_154 ⟨Nat.le_of_ble_eq_true rfl, Nat.le_of_ble_eq_true rfl⟩) hS (fun G_120 H locs hF_120 hr_120 hT hS => ?_)
                have hF := hF.tr hF_120 rfl
                have k_123 : sc = G_120.1 sa 25 := e_sc.trans (hF_120.i h_sa (by decide) rfl _).symm
                have k_126 : z_114 = G_120.1 q_113 4 := ez_114.trans (hF_120.i hq_113 (by decide) rfl _).symm
                obtain ⟨hr_120_p0, hr_120_p1, hr_120_p2, hr_120_s0, hr_120_s1⟩ := hr_120
                have k_127 : tp = G_120.1 a 6 := e_tp.trans hr_120_s0.symm
                have k_128 : z_1 = G_120.1 a 12 := ez_1.trans hr_120_s1.symm
                obtain ⟨z_129, z_130, ez_129, ez_130, hr_120_p0, hr_120_p1, hr_120_p2⟩ : ∃ z_129 z_130 : Int32, z_129 = G_120.1 a 7 ∧ z_130 = G_120.1 a 8 ∧ (a0.toInt ≤ z_129.toInt) ∧ (z_129.toInt ≤ tp.toInt) ∧ (z_130.toInt = 0 ∨ a0.toInt < z_129.toInt) := ⟨_, _, rfl, rfl, hr_120_p0, hr_120_p1, hr_120_p2⟩
                have rz_129 : 0 ≤ z_129.toInt ∧ z_129.toInt ≤ 1600 := by rw [ez_129]; exact hT.rgi h_a (by decide) 7
                refine lv_iload_n hx hb dX10_line_157 rfl (lv_at hl 1 rfl) ?_
                refine lv_if_eq (tgt := 168) hx hb dX10_line_158 (by decide) (fun c_131 => absurd c_131 (by decide)) (fun _ => ?_)
                refine lv_aload_n hx hb dX10_line_161 rfl (lv_at hl 3 rfl) ?_
                refine t_callv (runV (As := []) (rest := []) ⟨hx, hb, hml, hown, hts⟩ (t_X10_thingLine l D cy base τ G_120 a h_a q_113 hq_113 ((hF.r h_a (by decide) rfl _).trans eq_113) tp k_127 ⟨by omega, by omega⟩ z_129 ez_129 ⟨by omega, by omega⟩ z_114 k_126 ⟨by omega, by omega⟩ (by show z_129.toInt ≤ tp.toInt; first | assumption | omega | decide)) sV_X10_239 hK (t_recv cf_11 hK hT h_a) ⟨Nat.le_trans hZ hS.1, hT⟩ ⟨Nat.le_of_ble_eq_true rfl, Nat.le_of_ble_eq_true rfl⟩ rfl hl.1 rfl (Nat.le_of_ble_eq_true rfl) dX10_line_162 ⟨Nat.le_of_ble_eq_true rfl, Nat.le_of_ble_eq_true rfl⟩) hS (fun G_132 H locs hF_132 hr_132 hT hS => ?_)
                have hF := hF.tr hF_132 rfl
                have k_133 : sc = G_132.1 sa 25 := k_123.trans (hF_132.i h_sa (by decide) rfl _).symm
                obtain ⟨hr_132_p0, hr_132_p1, hr_132_s0⟩ := hr_132
                have k_139 : tp = G_132.1 a 6 := k_127.trans hr_132_s0.symm
                obtain ⟨z_140, ez_140, hr_132_p0, hr_132_p1⟩ : ∃ z_140 : Int32, z_140 = G_132.1 a 7 ∧ (z_129.toInt ≤ z_140.toInt) ∧ (z_140.toInt ≤ tp.toInt) := ⟨_, rfl, hr_132_p0, hr_132_p1⟩
                have rz_140 : 0 ≤ z_140.toInt ∧ z_140.toInt ≤ 1600 := by rw [ez_140]; exact hT.rgi h_a (by decide) 7
                refine lv_goto (tgt := 183) hx hb dX10_line_165 (by decide) ?_
                exact ret_v hx hb hr hlocks ⟨⟨hS.1, hS.2.1⟩, G_132, hF, ⟨rfl, ⟨(by first | (show a0.toInt ≤ (G_132.1 a 7).toInt; rw [← ez_140]; done) | (show a0.toInt ≤ (G_132.1 a 7).toInt; rw [← ez_140]; show a0.toInt ≤ z_140.toInt; first | omega | assumption)), (by first | (show (G_132.1 a 7).toInt ≤ tp.toInt; rw [← ez_140]; done) | (show (G_132.1 a 7).toInt ≤ tp.toInt; rw [← ez_140]; show z_140.toInt ≤ tp.toInt; first | omega | assumption)), (by first | (show 1 ≤ (G_132.1 sa 25).toInt; rw [← k_133]; done) | (show 1 ≤ (G_132.1 sa 25).toInt; rw [← k_133]; show 1 ≤ sc.toInt; first | omega | assumption)), (k_139.symm.trans e_tp)⟩⟩, hT⟩ hS.2.2 (Nat.le_of_ble_eq_true rfl) (Nat.le_of_ble_eq_true rfl) dX10_line_183
              · skip
                have tc_118 : ¬ z_1.toInt = 0 := fun h => c_118 ((fa_eq _ _).mpr h)
                exfalso; omega
            · skip
              have tc_115 : z_114.toInt = 3 := (fa_eq _ _).mp c_115
              refine lv_goto (tgt := 140) hx hb dX10_line_108 (by decide) ?_
              refine lv_aload_n hx hb dX10_line_140 rfl (lv_at hl 3 rfl) ?_
              refine lv_iconst (v := 3) hx hb dX10_line_141 (by decide) ?_
              refine t_callv (runV (As := [.int 3]) (rest := []) ⟨hx, hb, hml, hown, hts⟩ (t_X10_fails l D cy base τ G a h_a 3 (by decide) tp e_tp ⟨by omega, by omega⟩ a0 e_a0 ⟨by omega, by omega⟩ z_2 ez_2 z_1 ez_1) sV_X10_179 hK (t_recv cf_11 hK hT h_a) ⟨Nat.le_trans hZ hS.1, hT⟩ ⟨Nat.le_of_ble_eq_true rfl, Nat.le_of_ble_eq_true rfl⟩ rfl hl.1 rfl (Nat.le_of_ble_eq_true rfl) dX10_line_142 ⟨Nat.le_of_ble_eq_true rfl, Nat.le_of_ble_eq_true rfl⟩) hS (fun G_141 H locs hF_141 hr_141 hT hS => ?_)
              have hF := hF.tr hF_141 rfl
              have k_144 : sc = G_141.1 sa 25 := e_sc.trans (hF_141.i h_sa (by decide) rfl _).symm
              have k_147 : z_114 = G_141.1 q_113 4 := ez_114.trans (hF_141.i hq_113 (by decide) rfl _).symm
              obtain ⟨hr_141_p0, hr_141_s0, hr_141_s1, hr_141_s2⟩ := hr_141
              have k_148 : tp = G_141.1 a 6 := e_tp.trans hr_141_s0.symm
              have k_149 : a0 = G_141.1 a 7 := e_a0.trans hr_141_s1.symm
              have k_150 : z_2 = G_141.1 a 8 := ez_2.trans hr_141_s2.symm
              obtain ⟨z_151, ez_151, hr_141_p0⟩ : ∃ z_151 : Int32, z_151 = G_141.1 a 12 ∧ (z_151.toInt ≠ 0) := ⟨_, rfl, hr_141_p0⟩
              refine lv_aload_n hx hb dX10_line_145 rfl (lv_at hl 3 rfl) ?_
              refine t_geti cf_11 hx hb hts hown hK hT h_a (k := 12) rfl fl_X10_163 (fun _ h9 => h9) dX10_line_146 (fun z_152 ez_152 rz_152 => ?_)
              have w_153 : z_151 = z_152 := ez_151.trans ez_152.symm
              subst w_153
              refine lv_if_eq (tgt := 153) hx hb dX10_line_149 (by decide) (fun c_154 => ?_) (fun c_154 => ?_)
              · skip
                have tc_154 : z_151.toInt = 0 := (fa_eq _ _).mp c_154
                refine lv_aload_n hx hb dX10_line_153 rfl (lv_at hl 3 rfl) ?_
                obtain ⟨q_155, eq_155, hq_155⟩ := (show ∃ q, G_141.2.2.1 a 5 = some q ∧ τ q = 55 from hT.rgr h_a (by decide) 5)
                have eq_155 := (hF.r h_a (by decide) rfl _).symm.trans eq_155
                refine t_callv (runV (As := []) (rest := []) ⟨hx, hb, hml, hown, hts⟩ (t_X10_next l D cy base τ G_141 a h_a q_155 hq_155 ((hF.r h_a (by decide) rfl _).trans eq_155) tp k_148 ⟨by omega, by omega⟩ a0 k_149 ⟨by omega, by omega⟩ z_151 ez_151 (by show a0.toInt ≤ tp.toInt; first | assumption | omega | decide)) sV_X10_173 hK (t_recv cf_11 hK hT h_a) ⟨Nat.le_trans hZ hS.1, hT⟩ ⟨Nat.le_of_ble_eq_true rfl, Nat.le_of_ble_eq_true rfl⟩ rfl hl.1 rfl (Nat.le_of_ble_eq_true rfl) dX10_line_154 ⟨Nat.le_of_ble_eq_true rfl, Nat.le_of_ble_eq_true rfl⟩) hS (fun G_156 H locs hF_156 hr_156 hT hS => ?_)
                have hF := hF.tr hF_156 rfl
                have k_157 : sc = G_156.1 sa 25 := k_144.trans (hF_156.i h_sa (by decide) rfl _).symm
                have k_158 : z_114 = G_156.1 q_113 4 := k_147.trans (hF_156.i hq_113 (by decide) rfl _).symm
                obtain ⟨hr_156_p0, hr_156_p1, hr_156_p2, hr_156_s0, hr_156_s1⟩ := hr_156
                have k_163 : tp = G_156.1 a 6 := k_148.trans hr_156_s0.symm
                have k_164 : z_151 = G_156.1 a 12 := ez_151.trans hr_156_s1.symm
                obtain ⟨z_165, z_166, ez_165, ez_166, hr_156_p0, hr_156_p1, hr_156_p2⟩ : ∃ z_165 z_166 : Int32, z_165 = G_156.1 a 7 ∧ z_166 = G_156.1 a 8 ∧ (a0.toInt ≤ z_165.toInt) ∧ (z_165.toInt ≤ tp.toInt) ∧ (z_166.toInt = 0 ∨ a0.toInt < z_165.toInt) := ⟨_, _, rfl, rfl, hr_156_p0, hr_156_p1, hr_156_p2⟩
                have rz_165 : 0 ≤ z_165.toInt ∧ z_165.toInt ≤ 1600 := by rw [ez_165]; exact hT.rgi h_a (by decide) 7
                refine lv_iload_n hx hb dX10_line_157 rfl (lv_at hl 1 rfl) ?_
                refine lv_if_eq (tgt := 168) hx hb dX10_line_158 (by decide) (fun c_167 => absurd c_167 (by decide)) (fun _ => ?_)
                refine lv_aload_n hx hb dX10_line_161 rfl (lv_at hl 3 rfl) ?_
                refine t_callv (runV (As := []) (rest := []) ⟨hx, hb, hml, hown, hts⟩ (t_X10_thingLine l D cy base τ G_156 a h_a q_113 hq_113 ((hF.r h_a (by decide) rfl _).trans eq_113) tp k_163 ⟨by omega, by omega⟩ z_165 ez_165 ⟨by omega, by omega⟩ z_114 k_158 ⟨by omega, by omega⟩ (by show z_165.toInt ≤ tp.toInt; first | assumption | omega | decide)) sV_X10_239 hK (t_recv cf_11 hK hT h_a) ⟨Nat.le_trans hZ hS.1, hT⟩ ⟨Nat.le_of_ble_eq_true rfl, Nat.le_of_ble_eq_true rfl⟩ rfl hl.1 rfl (Nat.le_of_ble_eq_true rfl) dX10_line_162 ⟨Nat.le_of_ble_eq_true rfl, Nat.le_of_ble_eq_true rfl⟩) hS (fun G_168 H locs hF_168 hr_168 hT hS => ?_)
                have hF := hF.tr hF_168 rfl
                have k_169 : sc = G_168.1 sa 25 := k_157.trans (hF_168.i h_sa (by decide) rfl _).symm
                obtain ⟨hr_168_p0, hr_168_p1, hr_168_s0⟩ := hr_168
                have k_175 : tp = G_168.1 a 6 := k_163.trans hr_168_s0.symm
                obtain ⟨z_176, ez_176, hr_168_p0, hr_168_p1⟩ : ∃ z_176 : Int32, z_176 = G_168.1 a 7 ∧ (z_165.toInt ≤ z_176.toInt) ∧ (z_176.toInt ≤ tp.toInt) := ⟨_, rfl, hr_168_p0, hr_168_p1⟩
                have rz_176 : 0 ≤ z_176.toInt ∧ z_176.toInt ≤ 1600 := by rw [ez_176]; exact hT.rgi h_a (by decide) 7
                refine lv_goto (tgt := 183) hx hb dX10_line_165 (by decide) ?_
                exact ret_v hx hb hr hlocks ⟨⟨hS.1, hS.2.1⟩, G_168, hF, ⟨rfl, ⟨(by first | (show a0.toInt ≤ (G_168.1 a 7).toInt; rw [← ez_176]; done) | (show a0.toInt ≤ (G_168.1 a 7).toInt; rw [← ez_176]; show a0.toInt ≤ z_176.toInt; first | omega | assumption)), (by first | (show (G_168.1 a 7).toInt ≤ tp.toInt; rw [← ez_176]; done) | (show (G_168.1 a 7).toInt ≤ tp.toInt; rw [← ez_176]; show z_176.toInt ≤ tp.toInt; first | omega | assumption)), (by first | (show 1 ≤ (G_168.1 sa 25).toInt; rw [← k_169]; done) | (show 1 ≤ (G_168.1 sa 25).toInt; rw [← k_169]; show 1 ≤ sc.toInt; first | omega | assumption)), (k_175.symm.trans e_tp)⟩⟩, hT⟩ hS.2.2 (Nat.le_of_ble_eq_true rfl) (Nat.le_of_ble_eq_true rfl) dX10_line_183
              · skip
                have tc_154 : ¬ z_151.toInt = 0 := fun h => c_154 ((fa_eq _ _).mpr h)
                exact ret_v hx hb hr hlocks ⟨⟨hS.1, hS.2.1⟩, G_141, hF, ⟨rfl, ⟨(by first | (show a0.toInt ≤ (G_141.1 a 7).toInt; rw [← k_149]; done) | (show a0.toInt ≤ (G_141.1 a 7).toInt; rw [← k_149]; show a0.toInt ≤ a0.toInt; first | omega | assumption)), (by first | (show (G_141.1 a 7).toInt ≤ tp.toInt; rw [← k_149]; done) | (show (G_141.1 a 7).toInt ≤ tp.toInt; rw [← k_149]; show a0.toInt ≤ tp.toInt; first | omega | assumption)), (by first | (show 1 ≤ (G_141.1 sa 25).toInt; rw [← k_144]; done) | (show 1 ≤ (G_141.1 sa 25).toInt; rw [← k_144]; show 1 ≤ sc.toInt; first | omega | assumption)), (k_148.symm.trans e_tp)⟩⟩, hT⟩ hS.2.2 (Nat.le_of_ble_eq_true rfl) (Nat.le_of_ble_eq_true rfl) dX10_line_152
        · skip
          have er_43 := hr_43_1
          subst er_43
          refine W.eq (g2 := F0 m 62 ls [.int 0]) rfl ?_
          refine lv_istore_n (lv' := [(2, .int 0), (1, .int (-1)), (0, .ref a)]) hx hb dX10_line_62 rfl hl (by decide) rfl (fun ls hl => ?_)
          refine lv_aload_n hx hb dX10_line_63 rfl (lv_at hl 2 rfl) ?_
          refine lv_ldc2 (v := 316452499) hx hb hown (hts _ kl_X10_235) dX10_line_64 ?_
          refine pu_calli (runV (As := [.long 316452499]) (rest := []) ⟨hx, hb, hml, hown, hts⟩ (t_X10_is l D cy base τ G a h_a 316452499 z_1 ez_1 z_2 ez_2) sV_X10_169 hK (t_recv cf_11 hK hT h_a) ⟨Nat.le_trans hZ hS.1, hT⟩ ⟨Nat.le_of_ble_eq_true rfl, Nat.le_of_ble_eq_true rfl⟩ rfl hl.1 rfl (Nat.le_of_ble_eq_true rfl) dX10_line_67 ⟨Nat.le_of_ble_eq_true rfl, Nat.le_of_ble_eq_true rfl⟩) (fun r_177 hr_177 => ?_)
          have hr_177_c := hr_177
          rcases hr_177_c with hr_177_0 | hr_177_1
          · skip
            obtain ⟨er_177, hr_177_0_f0, hr_177_0_f1⟩ := hr_177_0
            have hr_177_0_f0 : z_1.toInt = 0 := hr_177_0_f0
            have hr_177_0_f1 : z_2.toInt = 1 := hr_177_0_f1
            subst er_177
            refine W.eq (g2 := F0 m 70 ls [.int 1]) rfl ?_
            refine lv_istore_n (lv' := [(3, .int 1), (2, .int 0), (1, .int (-1)), (0, .ref a)]) hx hb dX10_line_70 rfl hl (by decide) rfl (fun ls hl => ?_)
            refine lv_iload_n hx hb dX10_line_71 rfl (lv_at hl 1 rfl) ?_
            refine lv_if_ne (tgt := 94) hx hb dX10_line_72 (by decide) (fun c_178 => absurd rfl c_178) (fun _ => ?_)
            refine lv_iload_n hx hb dX10_line_75 rfl (lv_at hl 0 rfl) ?_
            refine lv_if_ne (tgt := 94) hx hb dX10_line_76 (by decide) (fun _ => ?_) (fun c_179 => absurd c_179 (by decide))
            refine lv_iload_n hx hb dX10_line_94 rfl (lv_at hl 1 rfl) ?_
            refine lv_if_eq (tgt := 111) hx hb dX10_line_95 (by decide) (fun _ => ?_) (fun c_180 => absurd (by decide) c_180)
            refine lv_iload_n hx hb dX10_line_111 rfl (lv_at hl 0 rfl) ?_
            refine lv_if_eq (tgt := 129) hx hb dX10_line_112 (by decide) (fun c_181 => absurd c_181 (by decide)) (fun _ => ?_)
            refine lv_aload_n hx hb dX10_line_115 rfl (lv_at hl 3 rfl) ?_
            refine t_getr cf_11 hx hb hts hown hK hT h_a (k := 20) (P := fun q => τ q = 70) rfl (fun _ h9 => h9) fl_X10_43 (fun _ h9 => h9) dX10_line_116 (fun q_182 eq_182 hq_182 => ?_)
            refine lv_iconst (v := 4) hx hb dX10_line_119 (by decide) ?_
            refine t_iald (n := 5) (i := 4) rfl (by decide) hx hb hK hT hq_182 (hT.len hq_182 (by decide)) ⟨by decide, by decide⟩ dX10_line_120 (fun z_183 ez_183 rz_183 => ?_)
            have ez_183 : z_183 = G.1 q_182 4 := ez_183
            have rz_183 : 0 ≤ z_183.toInt ∧ z_183.toInt ≤ 6 := rz_183
            refine lv_bipush (v := 6) hx hb dX10_line_121 (by decide) ?_
            refine lv_icmp_ne (tgt := 145) hx hb dX10_line_123 (by decide) (fun c_184 => ?_) (fun c_184 => ?_)
            · skip
              have tc_184 : ¬ z_183.toInt = 6 := fun h => c_184 ((fa_eq _ _).mpr h)
              refine lv_aload_n hx hb dX10_line_145 rfl (lv_at hl 3 rfl) ?_
              refine t_geti cf_11 hx hb hts hown hK hT h_a (k := 12) rfl fl_X10_163 (fun _ h9 => h9) dX10_line_146 (fun z_185 ez_185 rz_185 => ?_)
              have w_186 : z_1 = z_185 := ez_1.trans ez_185.symm
              subst w_186
              refine lv_if_eq (tgt := 153) hx hb dX10_line_149 (by decide) (fun c_187 => ?_) (fun c_187 => ?_)
              · skip
                have tc_187 : z_1.toInt = 0 := (fa_eq _ _).mp c_187
                refine lv_aload_n hx hb dX10_line_153 rfl (lv_at hl 3 rfl) ?_
                obtain ⟨q_188, eq_188, hq_188⟩ := (show ∃ q, G.2.2.1 a 5 = some q ∧ τ q = 55 from hT.rgr h_a (by decide) 5)
                refine t_callv (runV (As := []) (rest := []) ⟨hx, hb, hml, hown, hts⟩ (t_X10_next l D cy base τ G a h_a q_188 hq_188 eq_188 tp e_tp ⟨by omega, by omega⟩ a0 e_a0 ⟨by omega, by omega⟩ z_1 ez_1 (by show a0.toInt ≤ tp.toInt; first | assumption | omega | decide)) sV_X10_173 hK (t_recv cf_11 hK hT h_a) ⟨Nat.le_trans hZ hS.1, hT⟩ ⟨Nat.le_of_ble_eq_true rfl, Nat.le_of_ble_eq_true rfl⟩ rfl hl.1 rfl (Nat.le_of_ble_eq_true rfl) dX10_line_154 ⟨Nat.le_of_ble_eq_true rfl, Nat.le_of_ble_eq_true rfl⟩) hS (fun G_189 H locs hF_189 hr_189 hT hS => ?_)
                have hF := hF.tr hF_189 rfl
                have k_192 : sc = G_189.1 sa 25 := e_sc.trans (hF_189.i h_sa (by decide) rfl _).symm
                have k_195 : z_183 = G_189.1 q_182 4 := ez_183.trans (hF_189.i hq_182 (by decide) rfl _).symm
                obtain ⟨hr_189_p0, hr_189_p1, hr_189_p2, hr_189_s0, hr_189_s1⟩ := hr_189
                have k_196 : tp = G_189.1 a 6 := e_tp.trans hr_189_s0.symm
                have k_197 : z_1 = G_189.1 a 12 := ez_1.trans hr_189_s1.symm
                obtain ⟨z_198, z_199, ez_198, ez_199, hr_189_p0, hr_189_p1, hr_189_p2⟩ : ∃ z_198 z_199 : Int32, z_198 = G_189.1 a 7 ∧ z_199 = G_189.1 a 8 ∧ (a0.toInt ≤ z_198.toInt) ∧ (z_198.toInt ≤ tp.toInt) ∧ (z_199.toInt = 0 ∨ a0.toInt < z_198.toInt) := ⟨_, _, rfl, rfl, hr_189_p0, hr_189_p1, hr_189_p2⟩
                have rz_198 : 0 ≤ z_198.toInt ∧ z_198.toInt ≤ 1600 := by rw [ez_198]; exact hT.rgi h_a (by decide) 7
                refine lv_iload_n hx hb dX10_line_157 rfl (lv_at hl 1 rfl) ?_
                refine lv_if_eq (tgt := 168) hx hb dX10_line_158 (by decide) (fun _ => ?_) (fun c_200 => absurd (by decide) c_200)
                refine lv_iload_n hx hb dX10_line_168 rfl (lv_at hl 0 rfl) ?_
                refine lv_if_eq (tgt := 179) hx hb dX10_line_169 (by decide) (fun c_201 => absurd c_201 (by decide)) (fun _ => ?_)
                refine lv_aload_n hx hb dX10_line_172 rfl (lv_at hl 3 rfl) ?_
                refine t_callv (runV (As := []) (rest := []) ⟨hx, hb, hml, hown, hts⟩ (t_X10_valleyLine l D cy base τ G_189 a h_a q_182 hq_182 ((hF.r h_a (by decide) rfl _).trans eq_182) tp k_196 ⟨by omega, by omega⟩ z_198 ez_198 ⟨by omega, by omega⟩ z_183 k_195 ⟨by omega, by omega⟩ (by show z_198.toInt ≤ tp.toInt; first | assumption | omega | decide)) sV_X10_242 hK (t_recv cf_11 hK hT h_a) ⟨Nat.le_trans hZ hS.1, hT⟩ ⟨Nat.le_of_ble_eq_true rfl, Nat.le_of_ble_eq_true rfl⟩ rfl hl.1 rfl (Nat.le_of_ble_eq_true rfl) dX10_line_173 ⟨Nat.le_of_ble_eq_true rfl, Nat.le_of_ble_eq_true rfl⟩) hS (fun G_202 H locs hF_202 hr_202 hT hS => ?_)
                have hF := hF.tr hF_202 rfl
                have k_203 : sc = G_202.1 sa 25 := k_192.trans (hF_202.i h_sa (by decide) rfl _).symm
                obtain ⟨hr_202_p0, hr_202_p1, hr_202_s0⟩ := hr_202
                have k_209 : tp = G_202.1 a 6 := k_196.trans hr_202_s0.symm
                obtain ⟨z_210, ez_210, hr_202_p0, hr_202_p1⟩ : ∃ z_210 : Int32, z_210 = G_202.1 a 7 ∧ (z_198.toInt ≤ z_210.toInt) ∧ (z_210.toInt ≤ tp.toInt) := ⟨_, rfl, hr_202_p0, hr_202_p1⟩
                have rz_210 : 0 ≤ z_210.toInt ∧ z_210.toInt ≤ 1600 := by rw [ez_210]; exact hT.rgi h_a (by decide) 7
                refine lv_goto (tgt := 183) hx hb dX10_line_176 (by decide) ?_
                exact ret_v hx hb hr hlocks ⟨⟨hS.1, hS.2.1⟩, G_202, hF, ⟨rfl, ⟨(by first | (show a0.toInt ≤ (G_202.1 a 7).toInt; rw [← ez_210]; done) | (show a0.toInt ≤ (G_202.1 a 7).toInt; rw [← ez_210]; show a0.toInt ≤ z_210.toInt; first | omega | assumption)), (by first | (show (G_202.1 a 7).toInt ≤ tp.toInt; rw [← ez_210]; done) | (show (G_202.1 a 7).toInt ≤ tp.toInt; rw [← ez_210]; show z_210.toInt ≤ tp.toInt; first | omega | assumption)), (by first | (show 1 ≤ (G_202.1 sa 25).toInt; rw [← k_203]; done) | (show 1 ≤ (G_202.1 sa 25).toInt; rw [← k_203]; show 1 ≤ sc.toInt; first | omega | assumption)), (k_209.symm.trans e_tp)⟩⟩, hT⟩ hS.2.2 (Nat.le_of_ble_eq_true rfl) (Nat.le_of_ble_eq_true rfl) dX10_line_183
              · skip
                have tc_187 : ¬ z_1.toInt = 0 := fun h => c_187 ((fa_eq _ _).mpr h)
                exfalso; omega
            · skip
              have tc_184 : z_183.toInt = 6 := (fa_eq _ _).mp c_184
              refine lv_goto (tgt := 140) hx hb dX10_line_126 (by decide) ?_
              refine lv_aload_n hx hb dX10_line_140 rfl (lv_at hl 3 rfl) ?_
              refine lv_iconst (v := 3) hx hb dX10_line_141 (by decide) ?_
              refine t_callv (runV (As := [.int 3]) (rest := []) ⟨hx, hb, hml, hown, hts⟩ (t_X10_fails l D cy base τ G a h_a 3 (by decide) tp e_tp ⟨by omega, by omega⟩ a0 e_a0 ⟨by omega, by omega⟩ z_2 ez_2 z_1 ez_1) sV_X10_179 hK (t_recv cf_11 hK hT h_a) ⟨Nat.le_trans hZ hS.1, hT⟩ ⟨Nat.le_of_ble_eq_true rfl, Nat.le_of_ble_eq_true rfl⟩ rfl hl.1 rfl (Nat.le_of_ble_eq_true rfl) dX10_line_142 ⟨Nat.le_of_ble_eq_true rfl, Nat.le_of_ble_eq_true rfl⟩) hS (fun G_211 H locs hF_211 hr_211 hT hS => ?_)
              have hF := hF.tr hF_211 rfl
              have k_214 : sc = G_211.1 sa 25 := e_sc.trans (hF_211.i h_sa (by decide) rfl _).symm
              have k_217 : z_183 = G_211.1 q_182 4 := ez_183.trans (hF_211.i hq_182 (by decide) rfl _).symm
              obtain ⟨hr_211_p0, hr_211_s0, hr_211_s1, hr_211_s2⟩ := hr_211
              have k_218 : tp = G_211.1 a 6 := e_tp.trans hr_211_s0.symm
              have k_219 : a0 = G_211.1 a 7 := e_a0.trans hr_211_s1.symm
              have k_220 : z_2 = G_211.1 a 8 := ez_2.trans hr_211_s2.symm
              obtain ⟨z_221, ez_221, hr_211_p0⟩ : ∃ z_221 : Int32, z_221 = G_211.1 a 12 ∧ (z_221.toInt ≠ 0) := ⟨_, rfl, hr_211_p0⟩
              refine lv_aload_n hx hb dX10_line_145 rfl (lv_at hl 3 rfl) ?_
              refine t_geti cf_11 hx hb hts hown hK hT h_a (k := 12) rfl fl_X10_163 (fun _ h9 => h9) dX10_line_146 (fun z_222 ez_222 rz_222 => ?_)
              have w_223 : z_221 = z_222 := ez_221.trans ez_222.symm
              subst w_223
              refine lv_if_eq (tgt := 153) hx hb dX10_line_149 (by decide) (fun c_224 => ?_) (fun c_224 => ?_)
              · skip
                have tc_224 : z_221.toInt = 0 := (fa_eq _ _).mp c_224
                refine lv_aload_n hx hb dX10_line_153 rfl (lv_at hl 3 rfl) ?_
                obtain ⟨q_225, eq_225, hq_225⟩ := (show ∃ q, G_211.2.2.1 a 5 = some q ∧ τ q = 55 from hT.rgr h_a (by decide) 5)
                have eq_225 := (hF.r h_a (by decide) rfl _).symm.trans eq_225
                refine t_callv (runV (As := []) (rest := []) ⟨hx, hb, hml, hown, hts⟩ (t_X10_next l D cy base τ G_211 a h_a q_225 hq_225 ((hF.r h_a (by decide) rfl _).trans eq_225) tp k_218 ⟨by omega, by omega⟩ a0 k_219 ⟨by omega, by omega⟩ z_221 ez_221 (by show a0.toInt ≤ tp.toInt; first | assumption | omega | decide)) sV_X10_173 hK (t_recv cf_11 hK hT h_a) ⟨Nat.le_trans hZ hS.1, hT⟩ ⟨Nat.le_of_ble_eq_true rfl, Nat.le_of_ble_eq_true rfl⟩ rfl hl.1 rfl (Nat.le_of_ble_eq_true rfl) dX10_line_154 ⟨Nat.le_of_ble_eq_true rfl, Nat.le_of_ble_eq_true rfl⟩) hS (fun G_226 H locs hF_226 hr_226 hT hS => ?_)
                have hF := hF.tr hF_226 rfl
                have k_227 : sc = G_226.1 sa 25 := k_214.trans (hF_226.i h_sa (by decide) rfl _).symm
                have k_228 : z_183 = G_226.1 q_182 4 := k_217.trans (hF_226.i hq_182 (by decide) rfl _).symm
                obtain ⟨hr_226_p0, hr_226_p1, hr_226_p2, hr_226_s0, hr_226_s1⟩ := hr_226
                have k_233 : tp = G_226.1 a 6 := k_218.trans hr_226_s0.symm
                have k_234 : z_221 = G_226.1 a 12 := ez_221.trans hr_226_s1.symm
                obtain ⟨z_235, z_236, ez_235, ez_236, hr_226_p0, hr_226_p1, hr_226_p2⟩ : ∃ z_235 z_236 : Int32, z_235 = G_226.1 a 7 ∧ z_236 = G_226.1 a 8 ∧ (a0.toInt ≤ z_235.toInt) ∧ (z_235.toInt ≤ tp.toInt) ∧ (z_236.toInt = 0 ∨ a0.toInt < z_235.toInt) := ⟨_, _, rfl, rfl, hr_226_p0, hr_226_p1, hr_226_p2⟩
                have rz_235 : 0 ≤ z_235.toInt ∧ z_235.toInt ≤ 1600 := by rw [ez_235]; exact hT.rgi h_a (by decide) 7
                refine lv_iload_n hx hb dX10_line_157 rfl (lv_at hl 1 rfl) ?_
                refine lv_if_eq (tgt := 168) hx hb dX10_line_158 (by decide) (fun _ => ?_) (fun c_237 => absurd (by decide) c_237)
                refine lv_iload_n hx hb dX10_line_168 rfl (lv_at hl 0 rfl) ?_
                refine lv_if_eq (tgt := 179) hx hb dX10_line_169 (by decide) (fun c_238 => absurd c_238 (by decide)) (fun _ => ?_)
                refine lv_aload_n hx hb dX10_line_172 rfl (lv_at hl 3 rfl) ?_
                refine t_callv (runV (As := []) (rest := []) ⟨hx, hb, hml, hown, hts⟩ (t_X10_valleyLine l D cy base τ G_226 a h_a q_182 hq_182 ((hF.r h_a (by decide) rfl _).trans eq_182) tp k_233 ⟨by omega, by omega⟩ z_235 ez_235 ⟨by omega, by omega⟩ z_183 k_228 ⟨by omega, by omega⟩ (by show z_235.toInt ≤ tp.toInt; first | assumption | omega | decide)) sV_X10_242 hK (t_recv cf_11 hK hT h_a) ⟨Nat.le_trans hZ hS.1, hT⟩ ⟨Nat.le_of_ble_eq_true rfl, Nat.le_of_ble_eq_true rfl⟩ rfl hl.1 rfl (Nat.le_of_ble_eq_true rfl) dX10_line_173 ⟨Nat.le_of_ble_eq_true rfl, Nat.le_of_ble_eq_true rfl⟩) hS (fun G_239 H locs hF_239 hr_239 hT hS => ?_)
                have hF := hF.tr hF_239 rfl
                have k_240 : sc = G_239.1 sa 25 := k_227.trans (hF_239.i h_sa (by decide) rfl _).symm
                obtain ⟨hr_239_p0, hr_239_p1, hr_239_s0⟩ := hr_239
                have k_246 : tp = G_239.1 a 6 := k_233.trans hr_239_s0.symm
                obtain ⟨z_247, ez_247, hr_239_p0, hr_239_p1⟩ : ∃ z_247 : Int32, z_247 = G_239.1 a 7 ∧ (z_235.toInt ≤ z_247.toInt) ∧ (z_247.toInt ≤ tp.toInt) := ⟨_, rfl, hr_239_p0, hr_239_p1⟩
                have rz_247 : 0 ≤ z_247.toInt ∧ z_247.toInt ≤ 1600 := by rw [ez_247]; exact hT.rgi h_a (by decide) 7
                refine lv_goto (tgt := 183) hx hb dX10_line_176 (by decide) ?_
                exact ret_v hx hb hr hlocks ⟨⟨hS.1, hS.2.1⟩, G_239, hF, ⟨rfl, ⟨(by first | (show a0.toInt ≤ (G_239.1 a 7).toInt; rw [← ez_247]; done) | (show a0.toInt ≤ (G_239.1 a 7).toInt; rw [← ez_247]; show a0.toInt ≤ z_247.toInt; first | omega | assumption)), (by first | (show (G_239.1 a 7).toInt ≤ tp.toInt; rw [← ez_247]; done) | (show (G_239.1 a 7).toInt ≤ tp.toInt; rw [← ez_247]; show z_247.toInt ≤ tp.toInt; first | omega | assumption)), (by first | (show 1 ≤ (G_239.1 sa 25).toInt; rw [← k_240]; done) | (show 1 ≤ (G_239.1 sa 25).toInt; rw [← k_240]; show 1 ≤ sc.toInt; first | omega | assumption)), (k_246.symm.trans e_tp)⟩⟩, hT⟩ hS.2.2 (Nat.le_of_ble_eq_true rfl) (Nat.le_of_ble_eq_true rfl) dX10_line_183
              · skip
                have tc_224 : ¬ z_221.toInt = 0 := fun h => c_224 ((fa_eq _ _).mpr h)
                exact ret_v hx hb hr hlocks ⟨⟨hS.1, hS.2.1⟩, G_211, hF, ⟨rfl, ⟨(by first | (show a0.toInt ≤ (G_211.1 a 7).toInt; rw [← k_219]; done) | (show a0.toInt ≤ (G_211.1 a 7).toInt; rw [← k_219]; show a0.toInt ≤ a0.toInt; first | omega | assumption)), (by first | (show (G_211.1 a 7).toInt ≤ tp.toInt; rw [← k_219]; done) | (show (G_211.1 a 7).toInt ≤ tp.toInt; rw [← k_219]; show a0.toInt ≤ tp.toInt; first | omega | assumption)), (by first | (show 1 ≤ (G_211.1 sa 25).toInt; rw [← k_214]; done) | (show 1 ≤ (G_211.1 sa 25).toInt; rw [← k_214]; show 1 ≤ sc.toInt; first | omega | assumption)), (k_218.symm.trans e_tp)⟩⟩, hT⟩ hS.2.2 (Nat.le_of_ble_eq_true rfl) (Nat.le_of_ble_eq_true rfl) dX10_line_152
          · skip
            have er_177 := hr_177_1
            subst er_177
            refine W.eq (g2 := F0 m 70 ls [.int 0]) rfl ?_
            refine lv_istore_n (lv' := [(3, .int 0), (2, .int 0), (1, .int (-1)), (0, .ref a)]) hx hb dX10_line_70 rfl hl (by decide) rfl (fun ls hl => ?_)
            refine lv_iload_n hx hb dX10_line_71 rfl (lv_at hl 1 rfl) ?_
            refine lv_if_ne (tgt := 94) hx hb dX10_line_72 (by decide) (fun c_248 => absurd rfl c_248) (fun _ => ?_)
            refine lv_iload_n hx hb dX10_line_75 rfl (lv_at hl 0 rfl) ?_
            refine lv_if_ne (tgt := 94) hx hb dX10_line_76 (by decide) (fun c_249 => absurd rfl c_249) (fun _ => ?_)
            refine lv_aload_n hx hb dX10_line_79 rfl (lv_at hl 3 rfl) ?_
            refine lv_ldc2 (v := 316205) hx hb hown (hts _ kl_X10_237) dX10_line_80 ?_
            refine pu_calli (runV (As := [.long 316205]) (rest := []) ⟨hx, hb, hml, hown, hts⟩ (t_X10_is l D cy base τ G a h_a 316205 z_1 ez_1 z_2 ez_2) sV_X10_169 hK (t_recv cf_11 hK hT h_a) ⟨Nat.le_trans hZ hS.1, hT⟩ ⟨Nat.le_of_ble_eq_true rfl, Nat.le_of_ble_eq_true rfl⟩ rfl hl.1 rfl (Nat.le_of_ble_eq_true rfl) dX10_line_83 ⟨Nat.le_of_ble_eq_true rfl, Nat.le_of_ble_eq_true rfl⟩) (fun r_250 hr_250 => ?_)
            have hr_250_c := hr_250
            rcases hr_250_c with hr_250_0 | hr_250_1
            · skip
              obtain ⟨er_250, hr_250_0_f0, hr_250_0_f1⟩ := hr_250_0
              have hr_250_0_f0 : z_1.toInt = 0 := hr_250_0_f0
              have hr_250_0_f1 : z_2.toInt = 1 := hr_250_0_f1
              subst er_250
              refine W.eq (g2 := F0 m 86 ls [.int 1]) rfl ?_
              refine lv_if_ne (tgt := 94) hx hb dX10_line_86 (by decide) (fun _ => ?_) (fun c_251 => absurd c_251 (by decide))
              refine lv_iload_n hx hb dX10_line_94 rfl (lv_at hl 1 rfl) ?_
              refine lv_if_eq (tgt := 111) hx hb dX10_line_95 (by decide) (fun _ => ?_) (fun c_252 => absurd (by decide) c_252)
              refine lv_iload_n hx hb dX10_line_111 rfl (lv_at hl 0 rfl) ?_
              refine lv_if_eq (tgt := 129) hx hb dX10_line_112 (by decide) (fun _ => ?_) (fun c_253 => absurd (by decide) c_253)
              refine lv_aload_n hx hb dX10_line_129 rfl (lv_at hl 3 rfl) ?_
              refine t_getr cf_11 hx hb hts hown hK hT h_a (k := 22) (P := fun q => τ q = 72) rfl (fun _ h9 => h9) fl_X10_49 (fun _ h9 => h9) dX10_line_130 (fun q_254 eq_254 hq_254 => ?_)
              refine lv_iconst (v := 4) hx hb dX10_line_133 (by decide) ?_
              refine t_iald (n := 5) (i := 4) rfl (by decide) hx hb hK hT hq_254 (hT.len hq_254 (by decide)) ⟨by decide, by decide⟩ dX10_line_134 (fun z_255 ez_255 rz_255 => ?_)
              have ez_255 : z_255 = G.1 q_254 4 := ez_255
              have rz_255 : 0 ≤ z_255.toInt ∧ z_255.toInt ≤ 8 := rz_255
              refine lv_bipush (v := 8) hx hb dX10_line_135 (by decide) ?_
              refine lv_icmp_ne (tgt := 145) hx hb dX10_line_137 (by decide) (fun c_256 => ?_) (fun c_256 => ?_)
              · skip
                have tc_256 : ¬ z_255.toInt = 8 := fun h => c_256 ((fa_eq _ _).mpr h)
                refine lv_aload_n hx hb dX10_line_145 rfl (lv_at hl 3 rfl) ?_
                refine t_geti cf_11 hx hb hts hown hK hT h_a (k := 12) rfl fl_X10_163 (fun _ h9 => h9) dX10_line_146 (fun z_257 ez_257 rz_257 => ?_)
                have w_258 : z_1 = z_257 := ez_1.trans ez_257.symm
                subst w_258
                refine lv_if_eq (tgt := 153) hx hb dX10_line_149 (by decide) (fun c_259 => ?_) (fun c_259 => ?_)
                · skip
                  have tc_259 : z_1.toInt = 0 := (fa_eq _ _).mp c_259
                  refine lv_aload_n hx hb dX10_line_153 rfl (lv_at hl 3 rfl) ?_
                  obtain ⟨q_260, eq_260, hq_260⟩ := (show ∃ q, G.2.2.1 a 5 = some q ∧ τ q = 55 from hT.rgr h_a (by decide) 5)
                  refine t_callv (runV (As := []) (rest := []) ⟨hx, hb, hml, hown, hts⟩ (t_X10_next l D cy base τ G a h_a q_260 hq_260 eq_260 tp e_tp ⟨by omega, by omega⟩ a0 e_a0 ⟨by omega, by omega⟩ z_1 ez_1 (by show a0.toInt ≤ tp.toInt; first | assumption | omega | decide)) sV_X10_173 hK (t_recv cf_11 hK hT h_a) ⟨Nat.le_trans hZ hS.1, hT⟩ ⟨Nat.le_of_ble_eq_true rfl, Nat.le_of_ble_eq_true rfl⟩ rfl hl.1 rfl (Nat.le_of_ble_eq_true rfl) dX10_line_154 ⟨Nat.le_of_ble_eq_true rfl, Nat.le_of_ble_eq_true rfl⟩) hS (fun G_261 H locs hF_261 hr_261 hT hS => ?_)
                  have hF := hF.tr hF_261 rfl
                  have k_264 : sc = G_261.1 sa 25 := e_sc.trans (hF_261.i h_sa (by decide) rfl _).symm
                  have k_267 : z_255 = G_261.1 q_254 4 := ez_255.trans (hF_261.i hq_254 (by decide) rfl _).symm
                  obtain ⟨hr_261_p0, hr_261_p1, hr_261_p2, hr_261_s0, hr_261_s1⟩ := hr_261
                  have k_268 : tp = G_261.1 a 6 := e_tp.trans hr_261_s0.symm
                  have k_269 : z_1 = G_261.1 a 12 := ez_1.trans hr_261_s1.symm
                  obtain ⟨z_270, z_271, ez_270, ez_271, hr_261_p0, hr_261_p1, hr_261_p2⟩ : ∃ z_270 z_271 : Int32, z_270 = G_261.1 a 7 ∧ z_271 = G_261.1 a 8 ∧ (a0.toInt ≤ z_270.toInt) ∧ (z_270.toInt ≤ tp.toInt) ∧ (z_271.toInt = 0 ∨ a0.toInt < z_270.toInt) := ⟨_, _, rfl, rfl, hr_261_p0, hr_261_p1, hr_261_p2⟩
                  have rz_270 : 0 ≤ z_270.toInt ∧ z_270.toInt ≤ 1600 := by rw [ez_270]; exact hT.rgi h_a (by decide) 7
                  refine lv_iload_n hx hb dX10_line_157 rfl (lv_at hl 1 rfl) ?_
                  refine lv_if_eq (tgt := 168) hx hb dX10_line_158 (by decide) (fun _ => ?_) (fun c_272 => absurd (by decide) c_272)
                  refine lv_iload_n hx hb dX10_line_168 rfl (lv_at hl 0 rfl) ?_
                  refine lv_if_eq (tgt := 179) hx hb dX10_line_169 (by decide) (fun _ => ?_) (fun c_273 => absurd (by decide) c_273)
                  refine lv_aload_n hx hb dX10_line_179 rfl (lv_at hl 3 rfl) ?_
                  refine t_callv (runV (As := []) (rest := []) ⟨hx, hb, hml, hown, hts⟩ (t_X10_pathLine l D cy base τ G_261 a h_a q_254 hq_254 ((hF.r h_a (by decide) rfl _).trans eq_254) tp k_268 ⟨by omega, by omega⟩ z_270 ez_270 ⟨by omega, by omega⟩ z_255 k_267 ⟨by omega, by omega⟩ (by show z_270.toInt ≤ tp.toInt; first | assumption | omega | decide)) sV_X10_245 hK (t_recv cf_11 hK hT h_a) ⟨Nat.le_trans hZ hS.1, hT⟩ ⟨Nat.le_of_ble_eq_true rfl, Nat.le_of_ble_eq_true rfl⟩ rfl hl.1 rfl (Nat.le_of_ble_eq_true rfl) dX10_line_180 ⟨Nat.le_of_ble_eq_true rfl, Nat.le_of_ble_eq_true rfl⟩) hS (fun G_274 H locs hF_274 hr_274 hT hS => ?_)
                  have hF := hF.tr hF_274 rfl
                  have k_275 : sc = G_274.1 sa 25 := k_264.trans (hF_274.i h_sa (by decide) rfl _).symm
                  obtain ⟨hr_274_p0, hr_274_p1, hr_274_s0⟩ := hr_274
                  have k_281 : tp = G_274.1 a 6 := k_268.trans hr_274_s0.symm
                  obtain ⟨z_282, ez_282, hr_274_p0, hr_274_p1⟩ : ∃ z_282 : Int32, z_282 = G_274.1 a 7 ∧ (z_270.toInt ≤ z_282.toInt) ∧ (z_282.toInt ≤ tp.toInt) := ⟨_, rfl, hr_274_p0, hr_274_p1⟩
                  have rz_282 : 0 ≤ z_282.toInt ∧ z_282.toInt ≤ 1600 := by rw [ez_282]; exact hT.rgi h_a (by decide) 7
                  exact ret_v hx hb hr hlocks ⟨⟨hS.1, hS.2.1⟩, G_274, hF, ⟨rfl, ⟨(by first | (show a0.toInt ≤ (G_274.1 a 7).toInt; rw [← ez_282]; done) | (show a0.toInt ≤ (G_274.1 a 7).toInt; rw [← ez_282]; show a0.toInt ≤ z_282.toInt; first | omega | assumption)), (by first | (show (G_274.1 a 7).toInt ≤ tp.toInt; rw [← ez_282]; done) | (show (G_274.1 a 7).toInt ≤ tp.toInt; rw [← ez_282]; show z_282.toInt ≤ tp.toInt; first | omega | assumption)), (by first | (show 1 ≤ (G_274.1 sa 25).toInt; rw [← k_275]; done) | (show 1 ≤ (G_274.1 sa 25).toInt; rw [← k_275]; show 1 ≤ sc.toInt; first | omega | assumption)), (k_281.symm.trans e_tp)⟩⟩, hT⟩ hS.2.2 (Nat.le_of_ble_eq_true rfl) (Nat.le_of_ble_eq_true rfl) dX10_line_183
                · skip
                  have tc_259 : ¬ z_1.toInt = 0 := fun h => c_259 ((fa_eq _ _).mpr h)
                  exfalso; omega
              · skip
                have tc_256 : z_255.toInt = 8 := (fa_eq _ _).mp c_256
                refine lv_aload_n hx hb dX10_line_140 rfl (lv_at hl 3 rfl) ?_
                refine lv_iconst (v := 3) hx hb dX10_line_141 (by decide) ?_
                refine t_callv (runV (As := [.int 3]) (rest := []) ⟨hx, hb, hml, hown, hts⟩ (t_X10_fails l D cy base τ G a h_a 3 (by decide) tp e_tp ⟨by omega, by omega⟩ a0 e_a0 ⟨by omega, by omega⟩ z_2 ez_2 z_1 ez_1) sV_X10_179 hK (t_recv cf_11 hK hT h_a) ⟨Nat.le_trans hZ hS.1, hT⟩ ⟨Nat.le_of_ble_eq_true rfl, Nat.le_of_ble_eq_true rfl⟩ rfl hl.1 rfl (Nat.le_of_ble_eq_true rfl) dX10_line_142 ⟨Nat.le_of_ble_eq_true rfl, Nat.le_of_ble_eq_true rfl⟩) hS (fun G_283 H locs hF_283 hr_283 hT hS => ?_)
                have hF := hF.tr hF_283 rfl
                have k_286 : sc = G_283.1 sa 25 := e_sc.trans (hF_283.i h_sa (by decide) rfl _).symm
                have k_289 : z_255 = G_283.1 q_254 4 := ez_255.trans (hF_283.i hq_254 (by decide) rfl _).symm
                obtain ⟨hr_283_p0, hr_283_s0, hr_283_s1, hr_283_s2⟩ := hr_283
                have k_290 : tp = G_283.1 a 6 := e_tp.trans hr_283_s0.symm
                have k_291 : a0 = G_283.1 a 7 := e_a0.trans hr_283_s1.symm
                have k_292 : z_2 = G_283.1 a 8 := ez_2.trans hr_283_s2.symm
                obtain ⟨z_293, ez_293, hr_283_p0⟩ : ∃ z_293 : Int32, z_293 = G_283.1 a 12 ∧ (z_293.toInt ≠ 0) := ⟨_, rfl, hr_283_p0⟩
                refine lv_aload_n hx hb dX10_line_145 rfl (lv_at hl 3 rfl) ?_
                refine t_geti cf_11 hx hb hts hown hK hT h_a (k := 12) rfl fl_X10_163 (fun _ h9 => h9) dX10_line_146 (fun z_294 ez_294 rz_294 => ?_)
                have w_295 : z_293 = z_294 := ez_293.trans ez_294.symm
                subst w_295
                refine lv_if_eq (tgt := 153) hx hb dX10_line_149 (by decide) (fun c_296 => ?_) (fun c_296 => ?_)
                · skip
                  have tc_296 : z_293.toInt = 0 := (fa_eq _ _).mp c_296
                  refine lv_aload_n hx hb dX10_line_153 rfl (lv_at hl 3 rfl) ?_
                  obtain ⟨q_297, eq_297, hq_297⟩ := (show ∃ q, G_283.2.2.1 a 5 = some q ∧ τ q = 55 from hT.rgr h_a (by decide) 5)
                  have eq_297 := (hF.r h_a (by decide) rfl _).symm.trans eq_297
                  refine t_callv (runV (As := []) (rest := []) ⟨hx, hb, hml, hown, hts⟩ (t_X10_next l D cy base τ G_283 a h_a q_297 hq_297 ((hF.r h_a (by decide) rfl _).trans eq_297) tp k_290 ⟨by omega, by omega⟩ a0 k_291 ⟨by omega, by omega⟩ z_293 ez_293 (by show a0.toInt ≤ tp.toInt; first | assumption | omega | decide)) sV_X10_173 hK (t_recv cf_11 hK hT h_a) ⟨Nat.le_trans hZ hS.1, hT⟩ ⟨Nat.le_of_ble_eq_true rfl, Nat.le_of_ble_eq_true rfl⟩ rfl hl.1 rfl (Nat.le_of_ble_eq_true rfl) dX10_line_154 ⟨Nat.le_of_ble_eq_true rfl, Nat.le_of_ble_eq_true rfl⟩) hS (fun G_298 H locs hF_298 hr_298 hT hS => ?_)
                  have hF := hF.tr hF_298 rfl
                  have k_299 : sc = G_298.1 sa 25 := k_286.trans (hF_298.i h_sa (by decide) rfl _).symm
                  have k_300 : z_255 = G_298.1 q_254 4 := k_289.trans (hF_298.i hq_254 (by decide) rfl _).symm
                  obtain ⟨hr_298_p0, hr_298_p1, hr_298_p2, hr_298_s0, hr_298_s1⟩ := hr_298
                  have k_305 : tp = G_298.1 a 6 := k_290.trans hr_298_s0.symm
                  have k_306 : z_293 = G_298.1 a 12 := ez_293.trans hr_298_s1.symm
                  obtain ⟨z_307, z_308, ez_307, ez_308, hr_298_p0, hr_298_p1, hr_298_p2⟩ : ∃ z_307 z_308 : Int32, z_307 = G_298.1 a 7 ∧ z_308 = G_298.1 a 8 ∧ (a0.toInt ≤ z_307.toInt) ∧ (z_307.toInt ≤ tp.toInt) ∧ (z_308.toInt = 0 ∨ a0.toInt < z_307.toInt) := ⟨_, _, rfl, rfl, hr_298_p0, hr_298_p1, hr_298_p2⟩
                  have rz_307 : 0 ≤ z_307.toInt ∧ z_307.toInt ≤ 1600 := by rw [ez_307]; exact hT.rgi h_a (by decide) 7
                  refine lv_iload_n hx hb dX10_line_157 rfl (lv_at hl 1 rfl) ?_
                  refine lv_if_eq (tgt := 168) hx hb dX10_line_158 (by decide) (fun _ => ?_) (fun c_309 => absurd (by decide) c_309)
                  refine lv_iload_n hx hb dX10_line_168 rfl (lv_at hl 0 rfl) ?_
                  refine lv_if_eq (tgt := 179) hx hb dX10_line_169 (by decide) (fun _ => ?_) (fun c_310 => absurd (by decide) c_310)
                  refine lv_aload_n hx hb dX10_line_179 rfl (lv_at hl 3 rfl) ?_
                  refine t_callv (runV (As := []) (rest := []) ⟨hx, hb, hml, hown, hts⟩ (t_X10_pathLine l D cy base τ G_298 a h_a q_254 hq_254 ((hF.r h_a (by decide) rfl _).trans eq_254) tp k_305 ⟨by omega, by omega⟩ z_307 ez_307 ⟨by omega, by omega⟩ z_255 k_300 ⟨by omega, by omega⟩ (by show z_307.toInt ≤ tp.toInt; first | assumption | omega | decide)) sV_X10_245 hK (t_recv cf_11 hK hT h_a) ⟨Nat.le_trans hZ hS.1, hT⟩ ⟨Nat.le_of_ble_eq_true rfl, Nat.le_of_ble_eq_true rfl⟩ rfl hl.1 rfl (Nat.le_of_ble_eq_true rfl) dX10_line_180 ⟨Nat.le_of_ble_eq_true rfl, Nat.le_of_ble_eq_true rfl⟩) hS (fun G_311 H locs hF_311 hr_311 hT hS => ?_)
                  have hF := hF.tr hF_311 rfl
                  have k_312 : sc = G_311.1 sa 25 := k_299.trans (hF_311.i h_sa (by decide) rfl _).symm
                  obtain ⟨hr_311_p0, hr_311_p1, hr_311_s0⟩ := hr_311
                  have k_318 : tp = G_311.1 a 6 := k_305.trans hr_311_s0.symm
                  obtain ⟨z_319, ez_319, hr_311_p0, hr_311_p1⟩ : ∃ z_319 : Int32, z_319 = G_311.1 a 7 ∧ (z_307.toInt ≤ z_319.toInt) ∧ (z_319.toInt ≤ tp.toInt) := ⟨_, rfl, hr_311_p0, hr_311_p1⟩
                  have rz_319 : 0 ≤ z_319.toInt ∧ z_319.toInt ≤ 1600 := by rw [ez_319]; exact hT.rgi h_a (by decide) 7
                  exact ret_v hx hb hr hlocks ⟨⟨hS.1, hS.2.1⟩, G_311, hF, ⟨rfl, ⟨(by first | (show a0.toInt ≤ (G_311.1 a 7).toInt; rw [← ez_319]; done) | (show a0.toInt ≤ (G_311.1 a 7).toInt; rw [← ez_319]; show a0.toInt ≤ z_319.toInt; first | omega | assumption)), (by first | (show (G_311.1 a 7).toInt ≤ tp.toInt; rw [← ez_319]; done) | (show (G_311.1 a 7).toInt ≤ tp.toInt; rw [← ez_319]; show z_319.toInt ≤ tp.toInt; first | omega | assumption)), (by first | (show 1 ≤ (G_311.1 sa 25).toInt; rw [← k_312]; done) | (show 1 ≤ (G_311.1 sa 25).toInt; rw [← k_312]; show 1 ≤ sc.toInt; first | omega | assumption)), (k_318.symm.trans e_tp)⟩⟩, hT⟩ hS.2.2 (Nat.le_of_ble_eq_true rfl) (Nat.le_of_ble_eq_true rfl) dX10_line_183
                · skip
                  have tc_296 : ¬ z_293.toInt = 0 := fun h => c_296 ((fa_eq _ _).mpr h)
                  exact ret_v hx hb hr hlocks ⟨⟨hS.1, hS.2.1⟩, G_283, hF, ⟨rfl, ⟨(by first | (show a0.toInt ≤ (G_283.1 a 7).toInt; rw [← k_291]; done) | (show a0.toInt ≤ (G_283.1 a 7).toInt; rw [← k_291]; show a0.toInt ≤ a0.toInt; first | omega | assumption)), (by first | (show (G_283.1 a 7).toInt ≤ tp.toInt; rw [← k_291]; done) | (show (G_283.1 a 7).toInt ≤ tp.toInt; rw [← k_291]; show a0.toInt ≤ tp.toInt; first | omega | assumption)), (by first | (show 1 ≤ (G_283.1 sa 25).toInt; rw [← k_286]; done) | (show 1 ≤ (G_283.1 sa 25).toInt; rw [← k_286]; show 1 ≤ sc.toInt; first | omega | assumption)), (k_290.symm.trans e_tp)⟩⟩, hT⟩ hS.2.2 (Nat.le_of_ble_eq_true rfl) (Nat.le_of_ble_eq_true rfl) dX10_line_152
            · skip
              have er_250 := hr_250_1
              subst er_250
              refine W.eq (g2 := F0 m 86 ls [.int 0]) rfl ?_
              refine lv_if_ne (tgt := 94) hx hb dX10_line_86 (by decide) (fun c_320 => absurd rfl c_320) (fun _ => ?_)
              refine lv_aload_n hx hb dX10_line_89 rfl (lv_at hl 3 rfl) ?_
              refine lv_iconst (v := 1) hx hb dX10_line_90 (by decide) ?_
              refine t_callv (runV (As := [.int 1]) (rest := []) ⟨hx, hb, hml, hown, hts⟩ (t_X10_fails l D cy base τ G a h_a 1 (by decide) tp e_tp ⟨by omega, by omega⟩ a0 e_a0 ⟨by omega, by omega⟩ z_2 ez_2 z_1 ez_1) sV_X10_179 hK (t_recv cf_11 hK hT h_a) ⟨Nat.le_trans hZ hS.1, hT⟩ ⟨Nat.le_of_ble_eq_true rfl, Nat.le_of_ble_eq_true rfl⟩ rfl hl.1 rfl (Nat.le_of_ble_eq_true rfl) dX10_line_91 ⟨Nat.le_of_ble_eq_true rfl, Nat.le_of_ble_eq_true rfl⟩) hS (fun G_321 H locs hF_321 hr_321 hT hS => ?_)
              have hF := hF.tr hF_321 rfl
              have k_324 : sc = G_321.1 sa 25 := e_sc.trans (hF_321.i h_sa (by decide) rfl _).symm
              obtain ⟨hr_321_p0, hr_321_s0, hr_321_s1, hr_321_s2⟩ := hr_321
              have k_327 : tp = G_321.1 a 6 := e_tp.trans hr_321_s0.symm
              have k_328 : a0 = G_321.1 a 7 := e_a0.trans hr_321_s1.symm
              have k_329 : z_2 = G_321.1 a 8 := ez_2.trans hr_321_s2.symm
              obtain ⟨z_330, ez_330, hr_321_p0⟩ : ∃ z_330 : Int32, z_330 = G_321.1 a 12 ∧ (z_330.toInt ≠ 0) := ⟨_, rfl, hr_321_p0⟩
              refine lv_iload_n hx hb dX10_line_94 rfl (lv_at hl 1 rfl) ?_
              refine lv_if_eq (tgt := 111) hx hb dX10_line_95 (by decide) (fun _ => ?_) (fun c_331 => absurd (by decide) c_331)
              refine lv_iload_n hx hb dX10_line_111 rfl (lv_at hl 0 rfl) ?_
              refine lv_if_eq (tgt := 129) hx hb dX10_line_112 (by decide) (fun _ => ?_) (fun c_332 => absurd (by decide) c_332)
              refine lv_aload_n hx hb dX10_line_129 rfl (lv_at hl 3 rfl) ?_
              refine t_getr cf_11 hx hb hts hown hK hT h_a (k := 22) (P := fun q => τ q = 72) rfl (fun _ h9 => h9) fl_X10_49 (fun _ h9 => h9) dX10_line_130 (fun q_333 eq_333 hq_333 => ?_)
              have eq_333 := (hF.r h_a (by decide) rfl _).symm.trans eq_333
              refine lv_iconst (v := 4) hx hb dX10_line_133 (by decide) ?_
              refine t_iald (n := 5) (i := 4) rfl (by decide) hx hb hK hT hq_333 (hT.len hq_333 (by decide)) ⟨by decide, by decide⟩ dX10_line_134 (fun z_334 ez_334 rz_334 => ?_)
              have ez_334 : z_334 = G_321.1 q_333 4 := ez_334
              have rz_334 : 0 ≤ z_334.toInt ∧ z_334.toInt ≤ 8 := rz_334
              refine lv_bipush (v := 8) hx hb dX10_line_135 (by decide) ?_
              refine lv_icmp_ne (tgt := 145) hx hb dX10_line_137 (by decide) (fun c_335 => ?_) (fun c_335 => ?_)
              · skip
                have tc_335 : ¬ z_334.toInt = 8 := fun h => c_335 ((fa_eq _ _).mpr h)
                refine lv_aload_n hx hb dX10_line_145 rfl (lv_at hl 3 rfl) ?_
                refine t_geti cf_11 hx hb hts hown hK hT h_a (k := 12) rfl fl_X10_163 (fun _ h9 => h9) dX10_line_146 (fun z_336 ez_336 rz_336 => ?_)
                have w_337 : z_330 = z_336 := ez_330.trans ez_336.symm
                subst w_337
                refine lv_if_eq (tgt := 153) hx hb dX10_line_149 (by decide) (fun c_338 => ?_) (fun c_338 => ?_)
                · skip
                  have tc_338 : z_330.toInt = 0 := (fa_eq _ _).mp c_338
                  refine lv_aload_n hx hb dX10_line_153 rfl (lv_at hl 3 rfl) ?_
                  obtain ⟨q_339, eq_339, hq_339⟩ := (show ∃ q, G_321.2.2.1 a 5 = some q ∧ τ q = 55 from hT.rgr h_a (by decide) 5)
                  have eq_339 := (hF.r h_a (by decide) rfl _).symm.trans eq_339
                  refine t_callv (runV (As := []) (rest := []) ⟨hx, hb, hml, hown, hts⟩ (t_X10_next l D cy base τ G_321 a h_a q_339 hq_339 ((hF.r h_a (by decide) rfl _).trans eq_339) tp k_327 ⟨by omega, by omega⟩ a0 k_328 ⟨by omega, by omega⟩ z_330 ez_330 (by show a0.toInt ≤ tp.toInt; first | assumption | omega | decide)) sV_X10_173 hK (t_recv cf_11 hK hT h_a) ⟨Nat.le_trans hZ hS.1, hT⟩ ⟨Nat.le_of_ble_eq_true rfl, Nat.le_of_ble_eq_true rfl⟩ rfl hl.1 rfl (Nat.le_of_ble_eq_true rfl) dX10_line_154 ⟨Nat.le_of_ble_eq_true rfl, Nat.le_of_ble_eq_true rfl⟩) hS (fun G_340 H locs hF_340 hr_340 hT hS => ?_)
                  have hF := hF.tr hF_340 rfl
                  have k_341 : sc = G_340.1 sa 25 := k_324.trans (hF_340.i h_sa (by decide) rfl _).symm
                  have k_346 : z_334 = G_340.1 q_333 4 := ez_334.trans (hF_340.i hq_333 (by decide) rfl _).symm
                  obtain ⟨hr_340_p0, hr_340_p1, hr_340_p2, hr_340_s0, hr_340_s1⟩ := hr_340
                  have k_347 : tp = G_340.1 a 6 := k_327.trans hr_340_s0.symm
                  have k_348 : z_330 = G_340.1 a 12 := ez_330.trans hr_340_s1.symm
                  obtain ⟨z_349, z_350, ez_349, ez_350, hr_340_p0, hr_340_p1, hr_340_p2⟩ : ∃ z_349 z_350 : Int32, z_349 = G_340.1 a 7 ∧ z_350 = G_340.1 a 8 ∧ (a0.toInt ≤ z_349.toInt) ∧ (z_349.toInt ≤ tp.toInt) ∧ (z_350.toInt = 0 ∨ a0.toInt < z_349.toInt) := ⟨_, _, rfl, rfl, hr_340_p0, hr_340_p1, hr_340_p2⟩
                  have rz_349 : 0 ≤ z_349.toInt ∧ z_349.toInt ≤ 1600 := by rw [ez_349]; exact hT.rgi h_a (by decide) 7
                  refine lv_iload_n hx hb dX10_line_157 rfl (lv_at hl 1 rfl) ?_
                  refine lv_if_eq (tgt := 168) hx hb dX10_line_158 (by decide) (fun _ => ?_) (fun c_351 => absurd (by decide) c_351)
                  refine lv_iload_n hx hb dX10_line_168 rfl (lv_at hl 0 rfl) ?_
                  refine lv_if_eq (tgt := 179) hx hb dX10_line_169 (by decide) (fun _ => ?_) (fun c_352 => absurd (by decide) c_352)
                  refine lv_aload_n hx hb dX10_line_179 rfl (lv_at hl 3 rfl) ?_
                  refine t_callv (runV (As := []) (rest := []) ⟨hx, hb, hml, hown, hts⟩ (t_X10_pathLine l D cy base τ G_340 a h_a q_333 hq_333 ((hF.r h_a (by decide) rfl _).trans eq_333) tp k_347 ⟨by omega, by omega⟩ z_349 ez_349 ⟨by omega, by omega⟩ z_334 k_346 ⟨by omega, by omega⟩ (by show z_349.toInt ≤ tp.toInt; first | assumption | omega | decide)) sV_X10_245 hK (t_recv cf_11 hK hT h_a) ⟨Nat.le_trans hZ hS.1, hT⟩ ⟨Nat.le_of_ble_eq_true rfl, Nat.le_of_ble_eq_true rfl⟩ rfl hl.1 rfl (Nat.le_of_ble_eq_true rfl) dX10_line_180 ⟨Nat.le_of_ble_eq_true rfl, Nat.le_of_ble_eq_true rfl⟩) hS (fun G_353 H locs hF_353 hr_353 hT hS => ?_)
                  have hF := hF.tr hF_353 rfl
                  have k_354 : sc = G_353.1 sa 25 := k_341.trans (hF_353.i h_sa (by decide) rfl _).symm
                  obtain ⟨hr_353_p0, hr_353_p1, hr_353_s0⟩ := hr_353
                  have k_360 : tp = G_353.1 a 6 := k_347.trans hr_353_s0.symm
                  obtain ⟨z_361, ez_361, hr_353_p0, hr_353_p1⟩ : ∃ z_361 : Int32, z_361 = G_353.1 a 7 ∧ (z_349.toInt ≤ z_361.toInt) ∧ (z_361.toInt ≤ tp.toInt) := ⟨_, rfl, hr_353_p0, hr_353_p1⟩
                  have rz_361 : 0 ≤ z_361.toInt ∧ z_361.toInt ≤ 1600 := by rw [ez_361]; exact hT.rgi h_a (by decide) 7
                  exact ret_v hx hb hr hlocks ⟨⟨hS.1, hS.2.1⟩, G_353, hF, ⟨rfl, ⟨(by first | (show a0.toInt ≤ (G_353.1 a 7).toInt; rw [← ez_361]; done) | (show a0.toInt ≤ (G_353.1 a 7).toInt; rw [← ez_361]; show a0.toInt ≤ z_361.toInt; first | omega | assumption)), (by first | (show (G_353.1 a 7).toInt ≤ tp.toInt; rw [← ez_361]; done) | (show (G_353.1 a 7).toInt ≤ tp.toInt; rw [← ez_361]; show z_361.toInt ≤ tp.toInt; first | omega | assumption)), (by first | (show 1 ≤ (G_353.1 sa 25).toInt; rw [← k_354]; done) | (show 1 ≤ (G_353.1 sa 25).toInt; rw [← k_354]; show 1 ≤ sc.toInt; first | omega | assumption)), (k_360.symm.trans e_tp)⟩⟩, hT⟩ hS.2.2 (Nat.le_of_ble_eq_true rfl) (Nat.le_of_ble_eq_true rfl) dX10_line_183
                · skip
                  have tc_338 : ¬ z_330.toInt = 0 := fun h => c_338 ((fa_eq _ _).mpr h)
                  exact ret_v hx hb hr hlocks ⟨⟨hS.1, hS.2.1⟩, G_321, hF, ⟨rfl, ⟨(by first | (show a0.toInt ≤ (G_321.1 a 7).toInt; rw [← k_328]; done) | (show a0.toInt ≤ (G_321.1 a 7).toInt; rw [← k_328]; show a0.toInt ≤ a0.toInt; first | omega | assumption)), (by first | (show (G_321.1 a 7).toInt ≤ tp.toInt; rw [← k_328]; done) | (show (G_321.1 a 7).toInt ≤ tp.toInt; rw [← k_328]; show a0.toInt ≤ tp.toInt; first | omega | assumption)), (by first | (show 1 ≤ (G_321.1 sa 25).toInt; rw [← k_324]; done) | (show 1 ≤ (G_321.1 sa 25).toInt; rw [← k_324]; show 1 ≤ sc.toInt; first | omega | assumption)), (k_327.symm.trans e_tp)⟩⟩, hT⟩ hS.2.2 (Nat.le_of_ble_eq_true rfl) (Nat.le_of_ble_eq_true rfl) dX10_line_152
              · skip
                have tc_335 : z_334.toInt = 8 := (fa_eq _ _).mp c_335
                refine lv_aload_n hx hb dX10_line_140 rfl (lv_at hl 3 rfl) ?_
                refine lv_iconst (v := 3) hx hb dX10_line_141 (by decide) ?_
                refine t_callv (runV (As := [.int 3]) (rest := []) ⟨hx, hb, hml, hown, hts⟩ (t_X10_fails l D cy base τ G_321 a h_a 3 (by decide) tp k_327 ⟨by omega, by omega⟩ a0 k_328 ⟨by omega, by omega⟩ z_2 k_329 z_330 ez_330) sV_X10_179 hK (t_recv cf_11 hK hT h_a) ⟨Nat.le_trans hZ hS.1, hT⟩ ⟨Nat.le_of_ble_eq_true rfl, Nat.le_of_ble_eq_true rfl⟩ rfl hl.1 rfl (Nat.le_of_ble_eq_true rfl) dX10_line_142 ⟨Nat.le_of_ble_eq_true rfl, Nat.le_of_ble_eq_true rfl⟩) hS (fun G_362 H locs hF_362 hr_362 hT hS => ?_)
                have hF := hF.tr hF_362 rfl
                have k_363 : sc = G_362.1 sa 25 := k_324.trans (hF_362.i h_sa (by decide) rfl _).symm
                have k_368 : z_334 = G_362.1 q_333 4 := ez_334.trans (hF_362.i hq_333 (by decide) rfl _).symm
                obtain ⟨hr_362_p0, hr_362_s0, hr_362_s1, hr_362_s2⟩ := hr_362
                have k_369 : tp = G_362.1 a 6 := k_327.trans hr_362_s0.symm
                have k_370 : a0 = G_362.1 a 7 := k_328.trans hr_362_s1.symm
                have k_371 : z_2 = G_362.1 a 8 := k_329.trans hr_362_s2.symm
                obtain ⟨z_372, ez_372, hr_362_p0⟩ : ∃ z_372 : Int32, z_372 = G_362.1 a 12 ∧ (z_372.toInt ≠ 0) := ⟨_, rfl, hr_362_p0⟩
                refine lv_aload_n hx hb dX10_line_145 rfl (lv_at hl 3 rfl) ?_
                refine t_geti cf_11 hx hb hts hown hK hT h_a (k := 12) rfl fl_X10_163 (fun _ h9 => h9) dX10_line_146 (fun z_373 ez_373 rz_373 => ?_)
                have w_374 : z_372 = z_373 := ez_372.trans ez_373.symm
                subst w_374
                refine lv_if_eq (tgt := 153) hx hb dX10_line_149 (by decide) (fun c_375 => ?_) (fun c_375 => ?_)
                · skip
                  have tc_375 : z_372.toInt = 0 := (fa_eq _ _).mp c_375
                  refine lv_aload_n hx hb dX10_line_153 rfl (lv_at hl 3 rfl) ?_
                  obtain ⟨q_376, eq_376, hq_376⟩ := (show ∃ q, G_362.2.2.1 a 5 = some q ∧ τ q = 55 from hT.rgr h_a (by decide) 5)
                  have eq_376 := (hF.r h_a (by decide) rfl _).symm.trans eq_376
                  refine t_callv (runV (As := []) (rest := []) ⟨hx, hb, hml, hown, hts⟩ (t_X10_next l D cy base τ G_362 a h_a q_376 hq_376 ((hF.r h_a (by decide) rfl _).trans eq_376) tp k_369 ⟨by omega, by omega⟩ a0 k_370 ⟨by omega, by omega⟩ z_372 ez_372 (by show a0.toInt ≤ tp.toInt; first | assumption | omega | decide)) sV_X10_173 hK (t_recv cf_11 hK hT h_a) ⟨Nat.le_trans hZ hS.1, hT⟩ ⟨Nat.le_of_ble_eq_true rfl, Nat.le_of_ble_eq_true rfl⟩ rfl hl.1 rfl (Nat.le_of_ble_eq_true rfl) dX10_line_154 ⟨Nat.le_of_ble_eq_true rfl, Nat.le_of_ble_eq_true rfl⟩) hS (fun G_377 H locs hF_377 hr_377 hT hS => ?_)
                  have hF := hF.tr hF_377 rfl
                  have k_378 : sc = G_377.1 sa 25 := k_363.trans (hF_377.i h_sa (by decide) rfl _).symm
                  have k_379 : z_334 = G_377.1 q_333 4 := k_368.trans (hF_377.i hq_333 (by decide) rfl _).symm
                  obtain ⟨hr_377_p0, hr_377_p1, hr_377_p2, hr_377_s0, hr_377_s1⟩ := hr_377
                  have k_384 : tp = G_377.1 a 6 := k_369.trans hr_377_s0.symm
                  have k_385 : z_372 = G_377.1 a 12 := ez_372.trans hr_377_s1.symm
                  obtain ⟨z_386, z_387, ez_386, ez_387, hr_377_p0, hr_377_p1, hr_377_p2⟩ : ∃ z_386 z_387 : Int32, z_386 = G_377.1 a 7 ∧ z_387 = G_377.1 a 8 ∧ (a0.toInt ≤ z_386.toInt) ∧ (z_386.toInt ≤ tp.toInt) ∧ (z_387.toInt = 0 ∨ a0.toInt < z_386.toInt) := ⟨_, _, rfl, rfl, hr_377_p0, hr_377_p1, hr_377_p2⟩
                  have rz_386 : 0 ≤ z_386.toInt ∧ z_386.toInt ≤ 1600 := by rw [ez_386]; exact hT.rgi h_a (by decide) 7
                  refine lv_iload_n hx hb dX10_line_157 rfl (lv_at hl 1 rfl) ?_
                  refine lv_if_eq (tgt := 168) hx hb dX10_line_158 (by decide) (fun _ => ?_) (fun c_388 => absurd (by decide) c_388)
                  refine lv_iload_n hx hb dX10_line_168 rfl (lv_at hl 0 rfl) ?_
                  refine lv_if_eq (tgt := 179) hx hb dX10_line_169 (by decide) (fun _ => ?_) (fun c_389 => absurd (by decide) c_389)
                  refine lv_aload_n hx hb dX10_line_179 rfl (lv_at hl 3 rfl) ?_
                  refine t_callv (runV (As := []) (rest := []) ⟨hx, hb, hml, hown, hts⟩ (t_X10_pathLine l D cy base τ G_377 a h_a q_333 hq_333 ((hF.r h_a (by decide) rfl _).trans eq_333) tp k_384 ⟨by omega, by omega⟩ z_386 ez_386 ⟨by omega, by omega⟩ z_334 k_379 ⟨by omega, by omega⟩ (by show z_386.toInt ≤ tp.toInt; first | assumption | omega | decide)) sV_X10_245 hK (t_recv cf_11 hK hT h_a) ⟨Nat.le_trans hZ hS.1, hT⟩ ⟨Nat.le_of_ble_eq_true rfl, Nat.le_of_ble_eq_true rfl⟩ rfl hl.1 rfl (Nat.le_of_ble_eq_true rfl) dX10_line_180 ⟨Nat.le_of_ble_eq_true rfl, Nat.le_of_ble_eq_true rfl⟩) hS (fun G_390 H locs hF_390 hr_390 hT hS => ?_)
                  have hF := hF.tr hF_390 rfl
                  have k_391 : sc = G_390.1 sa 25 := k_378.trans (hF_390.i h_sa (by decide) rfl _).symm
                  obtain ⟨hr_390_p0, hr_390_p1, hr_390_s0⟩ := hr_390
                  have k_397 : tp = G_390.1 a 6 := k_384.trans hr_390_s0.symm
                  obtain ⟨z_398, ez_398, hr_390_p0, hr_390_p1⟩ : ∃ z_398 : Int32, z_398 = G_390.1 a 7 ∧ (z_386.toInt ≤ z_398.toInt) ∧ (z_398.toInt ≤ tp.toInt) := ⟨_, rfl, hr_390_p0, hr_390_p1⟩
                  have rz_398 : 0 ≤ z_398.toInt ∧ z_398.toInt ≤ 1600 := by rw [ez_398]; exact hT.rgi h_a (by decide) 7
                  exact ret_v hx hb hr hlocks ⟨⟨hS.1, hS.2.1⟩, G_390, hF, ⟨rfl, ⟨(by first | (show a0.toInt ≤ (G_390.1 a 7).toInt; rw [← ez_398]; done) | (show a0.toInt ≤ (G_390.1 a 7).toInt; rw [← ez_398]; show a0.toInt ≤ z_398.toInt; first | omega | assumption)), (by first | (show (G_390.1 a 7).toInt ≤ tp.toInt; rw [← ez_398]; done) | (show (G_390.1 a 7).toInt ≤ tp.toInt; rw [← ez_398]; show z_398.toInt ≤ tp.toInt; first | omega | assumption)), (by first | (show 1 ≤ (G_390.1 sa 25).toInt; rw [← k_391]; done) | (show 1 ≤ (G_390.1 sa 25).toInt; rw [← k_391]; show 1 ≤ sc.toInt; first | omega | assumption)), (k_397.symm.trans e_tp)⟩⟩, hT⟩ hS.2.2 (Nat.le_of_ble_eq_true rfl) (Nat.le_of_ble_eq_true rfl) dX10_line_183
                · skip
                  have tc_375 : ¬ z_372.toInt = 0 := fun h => c_375 ((fa_eq _ _).mpr h)
                  exact ret_v hx hb hr hlocks ⟨⟨hS.1, hS.2.1⟩, G_362, hF, ⟨rfl, ⟨(by first | (show a0.toInt ≤ (G_362.1 a 7).toInt; rw [← k_370]; done) | (show a0.toInt ≤ (G_362.1 a 7).toInt; rw [← k_370]; show a0.toInt ≤ a0.toInt; first | omega | assumption)), (by first | (show (G_362.1 a 7).toInt ≤ tp.toInt; rw [← k_370]; done) | (show (G_362.1 a 7).toInt ≤ tp.toInt; rw [← k_370]; show a0.toInt ≤ tp.toInt; first | omega | assumption)), (by first | (show 1 ≤ (G_362.1 sa 25).toInt; rw [← k_363]; done) | (show 1 ≤ (G_362.1 sa 25).toInt; rw [← k_363]; show 1 ≤ sc.toInt; first | omega | assumption)), (k_369.symm.trans e_tp)⟩⟩, hT⟩ hS.2.2 (Nat.le_of_ble_eq_true rfl) (Nat.le_of_ble_eq_true rfl) dX10_line_152
set_option maxHeartbeats 4000000 in
set_option maxRecDepth 100000 in
theorem t_X10_clears (l : Launch) (D : va_G) (cy : Nat → ClassId) (base : Nat) (τ : Nat → Nat) (G : Gh) (a : Nat) (h_a : τ a = 11) (sa : Nat) (h_sa : τ sa = 74) (e_sa : G.2.2.1 a 24 = some sa) : MM l yX10_clears cX10_clears 2 none 0 0 0 D cy [.ref a] (PT D cy base τ G) (QT D cy base τ G [66, 67, 68, 70, 72, 74, 75] (fun v g => v = none ∧ ((1 ≤ (g.1 sa 25).toInt)))) (RA base) := by
  refine MM.of (by decide) (Nat.le_of_ble_eq_true rfl) ?_
  intro p e s m below meth c C hPT ls hl
  obtain ⟨hx, hb, hr, hml, hown, hts, hlocks, hK, hnm⟩ := C
  obtain ⟨hZ, hT⟩ := hPT
  have hS : va_S (RA base) s.heap s.heap [] := va_S.rf
  have hF : Fr τ [66, 67, 68, 70, 72, 74, 75] G G := Fr.rf
  have hl : lv_has ls 2 [(0, .ref a)] := hl
  refine lv_aload_n hx hb dX10_clears_0 rfl (lv_at hl 0 rfl) ?_
  refine t_getr cf_11 hx hb hts hown hK hT h_a (k := 16) (P := fun q => τ q = 66) rfl (fun _ h9 => h9) fl_X10_31 (fun _ h9 => h9) dX10_clears_1 (fun q_1 eq_1 hq_1 => ?_)
  refine lv_iconst (v := 4) hx hb dX10_clears_4 (by decide) ?_
  refine lv_iconst (v := 0) hx hb dX10_clears_5 (by decide) ?_
  refine t_iast (n := 5) (i := 4) (x := 0) rfl (by decide) hx hb hK hT hS hq_1 (hT.len hq_1 (by decide)) ⟨by decide, by decide⟩ trivial dX10_clears_6 (fun H locs G_2 eG_2 hT hS => ?_)
  have hF := hF.wI eG_2 hq_1 rfl
  refine lv_iconst (v := 0) hx hb dX10_clears_7 (by decide) ?_
  refine lv_istore_n (lv' := [(1, .int 0), (0, .ref a)]) hx hb dX10_clears_8 rfl hl (by decide) rfl (fun ls hl => ?_)
  refine W.loop (σ := Int32 × Gh) (fun w3 H locs ls => 0 ≤ w3.1.toInt ∧ w3.1.toInt ≤ 4 ∧ Fr τ [66, 67, 68, 70, 72, 74, 75] G w3.2 ∧ TY D cy base τ w3.2 H ∧ va_S (RA base) s.heap H locs ∧ lv_has ls 2 [(1, .int w3.1), (0, .ref a)]) (fun w3 => (4 - w3.1.toInt).toNat) ?_ ((0 : Int32), G_2) _ _ _ ⟨(by show 0 ≤ (0 : Int32).toInt; decide), (by show (0 : Int32).toInt ≤ 4; decide), hF, hT, hS, lv_sub hl [0, 1] rfl⟩
  intro w3 H locs ls hI ih3
  obtain ⟨x3_1, G_3⟩ := w3
  obtain ⟨i3_0, i3_1, hF, hT, hS, hl⟩ := hI
  have i3_0 : 0 ≤ x3_1.toInt := i3_0
  have i3_1 : x3_1.toInt ≤ 4 := i3_1
  have hF : Fr τ [66, 67, 68, 70, 72, 74, 75] G G_3 := hF
  have hT : TY D cy base τ G_3 H := hT
  have hS : va_S (RA base) s.heap H locs := hS
  have hl : lv_has ls 2 [(1, .int x3_1), (0, .ref a)] := hl
  refine lv_iload_n hx hb dX10_clears_9 rfl (lv_at hl 0 rfl) ?_
  refine lv_iconst (v := 4) hx hb dX10_clears_10 (by decide) ?_
  refine lv_icmp_ge (tgt := 30) hx hb dX10_clears_11 (by decide) (fun c_4 => ?_) (fun c_4 => ?_)
  · skip
    have tc_4 : 4 ≤ x3_1.toInt := (fa_le _ _).mp c_4
    refine lv_aload_n hx hb dX10_clears_30 rfl (lv_at hl 1 rfl) ?_
    refine t_getr cf_11 hx hb hts hown hK hT h_a (k := 18) (P := fun q => τ q = 68) rfl (fun _ h9 => h9) fl_X10_37 (fun _ h9 => h9) dX10_clears_31 (fun q_5 eq_5 hq_5 => ?_)
    have eq_5 := (hF.r h_a (by decide) rfl _).symm.trans eq_5
    refine lv_iconst (v := 4) hx hb dX10_clears_34 (by decide) ?_
    refine lv_iconst (v := 0) hx hb dX10_clears_35 (by decide) ?_
    refine t_iast (n := 5) (i := 4) (x := 0) rfl (by decide) hx hb hK hT hS hq_5 (hT.len hq_5 (by decide)) ⟨by decide, by decide⟩ (show 0 ≤ (0 : Int32).toInt ∧ (0 : Int32).toInt ≤ 3 from by decide) dX10_clears_36 (fun H locs G_6 eG_6 hT hS => ?_)
    have hF := hF.wI eG_6 hq_5 rfl
    refine lv_aload_n hx hb dX10_clears_37 rfl (lv_at hl 1 rfl) ?_
    refine t_getr cf_11 hx hb hts hown hK hT h_a (k := 20) (P := fun q => τ q = 70) rfl (fun _ h9 => h9) fl_X10_43 (fun _ h9 => h9) dX10_clears_38 (fun q_7 eq_7 hq_7 => ?_)
    have eq_7 := (hF.r h_a (by decide) rfl _).symm.trans eq_7
    refine lv_iconst (v := 4) hx hb dX10_clears_41 (by decide) ?_
    refine lv_iconst (v := 0) hx hb dX10_clears_42 (by decide) ?_
    refine t_iast (n := 5) (i := 4) (x := 0) rfl (by decide) hx hb hK hT hS hq_7 (hT.len hq_7 (by decide)) ⟨by decide, by decide⟩ (show 0 ≤ (0 : Int32).toInt ∧ (0 : Int32).toInt ≤ 6 from by decide) dX10_clears_43 (fun H locs G_8 eG_8 hT hS => ?_)
    have hF := hF.wI eG_8 hq_7 rfl
    refine lv_aload_n hx hb dX10_clears_44 rfl (lv_at hl 1 rfl) ?_
    refine t_getr cf_11 hx hb hts hown hK hT h_a (k := 22) (P := fun q => τ q = 72) rfl (fun _ h9 => h9) fl_X10_49 (fun _ h9 => h9) dX10_clears_45 (fun q_9 eq_9 hq_9 => ?_)
    have eq_9 := (hF.r h_a (by decide) rfl _).symm.trans eq_9
    refine lv_iconst (v := 4) hx hb dX10_clears_48 (by decide) ?_
    refine lv_iconst (v := 0) hx hb dX10_clears_49 (by decide) ?_
    refine t_iast (n := 5) (i := 4) (x := 0) rfl (by decide) hx hb hK hT hS hq_9 (hT.len hq_9 (by decide)) ⟨by decide, by decide⟩ (show 0 ≤ (0 : Int32).toInt ∧ (0 : Int32).toInt ≤ 8 from by decide) dX10_clears_50 (fun H locs G_10 eG_10 hT hS => ?_)
    have hF := hF.wI eG_10 hq_9 rfl
    refine lv_iconst (v := 0) hx hb dX10_clears_51 (by decide) ?_
    refine lv_istore_n (lv' := [(1, .int 0), (0, .ref a)]) hx hb dX10_clears_52 rfl hl (by decide) rfl (fun ls hl => ?_)
    refine W.loop (σ := Int32 × Gh) (fun w11 H locs ls => 0 ≤ w11.1.toInt ∧ w11.1.toInt ≤ 6 ∧ (w11.1.toInt ≤ 1 ∨ 1 ≤ (w11.2.1 sa 25).toInt) ∧ Fr τ [66, 67, 68, 70, 72, 74, 75] G w11.2 ∧ TY D cy base τ w11.2 H ∧ va_S (RA base) s.heap H locs ∧ lv_has ls 2 [(1, .int w11.1), (0, .ref a)]) (fun w11 => (6 - w11.1.toInt).toNat) ?_ ((0 : Int32), G_10) _ _ _ ⟨(by show 0 ≤ (0 : Int32).toInt; decide), (by show (0 : Int32).toInt ≤ 6; decide), (by show (0 : Int) ≤ 1 ∨ 1 ≤ (G_10.1 sa 25).toInt; exact Or.inl (by decide)), hF, hT, hS, lv_sub hl [0, 1] rfl⟩
    intro w11 H locs ls hI ih11
    obtain ⟨x11_1, G_11⟩ := w11
    obtain ⟨i11_0, i11_1, i11_2, hF, hT, hS, hl⟩ := hI
    have i11_0 : 0 ≤ x11_1.toInt := i11_0
    have i11_1 : x11_1.toInt ≤ 6 := i11_1
    have i11_2 : (x11_1.toInt ≤ 1 ∨ 1 ≤ (G_11.1 sa 25).toInt) := i11_2
    have hF : Fr τ [66, 67, 68, 70, 72, 74, 75] G G_11 := hF
    have hT : TY D cy base τ G_11 H := hT
    have hS : va_S (RA base) s.heap H locs := hS
    have hl : lv_has ls 2 [(1, .int x11_1), (0, .ref a)] := hl
    refine lv_iload_n hx hb dX10_clears_53 rfl (lv_at hl 0 rfl) ?_
    refine lv_bipush (v := 6) hx hb dX10_clears_54 (by decide) ?_
    refine lv_icmp_ge (tgt := 93) hx hb dX10_clears_56 (by decide) (fun c_12 => ?_) (fun c_12 => ?_)
    · skip
      have tc_12 : 6 ≤ x11_1.toInt := (fa_le _ _).mp c_12
      obtain ⟨z_13, ez_13⟩ : ∃ y : Int32, y = G_11.1 sa 25 := ⟨_, rfl⟩
      have qz_13 : (25 % 6 = 0 → 0 ≤ z_13.toInt ∧ z_13.toInt ≤ 9) ∧ (25 % 6 = 1 → 0 ≤ z_13.toInt ∧ z_13.toInt ≤ 50) ∧ (25 % 6 = 3 → 0 ≤ z_13.toInt ∧ z_13.toInt ≤ 50) := by rw [ez_13]; exact hT.rgi h_sa (by decide) 25
      have rz_13 : 0 ≤ z_13.toInt ∧ z_13.toInt ≤ 50 := by omega
      have o_z_13 : 1 ≤ z_13.toInt := by rw [ez_13]; omega
      refine lv_iconst (v := 0) hx hb dX10_clears_93 (by decide) ?_
      refine lv_istore_n (lv' := [(1, .int 0), (0, .ref a)]) hx hb dX10_clears_94 rfl hl (by decide) rfl (fun ls hl => ?_)
      refine W.loop (σ := Int32 × Gh) (fun w14 H locs ls => 0 ≤ w14.1.toInt ∧ w14.1.toInt ≤ 3 ∧ z_13 = w14.2.1 sa 25 ∧ Fr τ [66, 67, 68, 70, 72, 74, 75] G w14.2 ∧ TY D cy base τ w14.2 H ∧ va_S (RA base) s.heap H locs ∧ lv_has ls 2 [(1, .int w14.1), (0, .ref a)]) (fun w14 => (3 - w14.1.toInt).toNat) ?_ ((0 : Int32), G_11) _ _ _ ⟨(by show 0 ≤ (0 : Int32).toInt; decide), (by show (0 : Int32).toInt ≤ 3; decide), (by show z_13 = G_11.1 sa 25; exact ez_13), hF, hT, hS, lv_sub hl [0, 1] rfl⟩
      intro w14 H locs ls hI ih14
      obtain ⟨x14_1, G_14⟩ := w14
      obtain ⟨i14_0, i14_1, i14_2, hF, hT, hS, hl⟩ := hI
      have i14_0 : 0 ≤ x14_1.toInt := i14_0
      have i14_1 : x14_1.toInt ≤ 3 := i14_1
      have i14_2 : z_13 = G_14.1 sa 25 := i14_2
      have hF : Fr τ [66, 67, 68, 70, 72, 74, 75] G G_14 := hF
      have hT : TY D cy base τ G_14 H := hT
      have hS : va_S (RA base) s.heap H locs := hS
      have hl : lv_has ls 2 [(1, .int x14_1), (0, .ref a)] := hl
      refine lv_iload_n hx hb dX10_clears_95 rfl (lv_at hl 0 rfl) ?_
      refine lv_iconst (v := 3) hx hb dX10_clears_96 (by decide) ?_
      refine lv_icmp_ge (tgt := 116) hx hb dX10_clears_97 (by decide) (fun c_15 => ?_) (fun c_15 => ?_)
      · skip
        have tc_15 : 3 ≤ x14_1.toInt := (fa_le _ _).mp c_15
        exact ret_v hx hb hr hlocks ⟨⟨hS.1, hS.2.1⟩, G_14, hF, ⟨rfl, (by first | (show 1 ≤ (G_14.1 sa 25).toInt; rw [← i14_2]; done) | (show 1 ≤ (G_14.1 sa 25).toInt; rw [← i14_2]; show 1 ≤ z_13.toInt; first | omega | assumption))⟩, hT⟩ hS.2.2 (Nat.le_of_ble_eq_true rfl) (Nat.le_of_ble_eq_true rfl) dX10_clears_116
      · skip
        have tc_15 : ¬ 3 ≤ x14_1.toInt := fun h => c_15 ((fa_le _ _).mpr h)
        refine lv_aload_n hx hb dX10_clears_100 rfl (lv_at hl 1 rfl) ?_
        refine t_getr cf_11 hx hb hts hown hK hT h_a (k := 25) (P := fun q => τ q = 75) rfl (fun _ h9 => h9) fl_X10_58 (fun _ h9 => h9) dX10_clears_101 (fun q_16 eq_16 hq_16 => ?_)
        have eq_16 := (hF.r h_a (by decide) rfl _).symm.trans eq_16
        refine lv_bipush (v := 12) hx hb dX10_clears_104 (by decide) ?_
        refine lv_iload_n hx hb dX10_clears_106 rfl (lv_at hl 0 rfl) ?_
        refine lv_iadd hx hb dX10_clears_107 ?_
        refine lv_topi (fun z_17 ez_17 => ?_)
        have tz_17 : z_17.toInt = 12 + x14_1.toInt := add_t ez_17 (show -2147483648 ≤ 12 + x14_1.toInt by omega) (show 12 + x14_1.toInt < 2147483648 by omega)
        refine lv_iconst (v := 0) hx hb dX10_clears_108 (by decide) ?_
        refine t_zast (n := 15) (i := z_17) (x := 0) rfl (by decide) hx hb hK hT hS hq_16 (hT.len hq_16 (by decide)) ⟨by omega, by omega⟩ trivial dX10_clears_109 (fun H locs G_18 eG_18 hT hS => ?_)
        have hF := hF.wI eG_18 hq_16 rfl
        have k_19 : z_13 = G_18.1 sa 25 := by rw [eG_18, wI_ne (Or.inl (tag_ne hq_16 h_sa (by decide)))]; exact i14_2
        obtain ⟨z_20, ez_20⟩ : ∃ y : Int32, y = x14_1 + 1 := ⟨_, rfl⟩
        have tz_20 : z_20.toInt = x14_1.toInt + 1 := add_t ez_20 (show -2147483648 ≤ x14_1.toInt + 1 by omega) (show x14_1.toInt + 1 < 2147483648 by omega)
        refine lv_iinc (v := z_20) (lv' := [(1, .int z_20), (0, .ref a)]) hx hb dX10_clears_110 hl (k := 0) rfl (by rw [ez_20]; rfl) (by decide) rfl (fun ls hl => ?_)
        refine lv_goto (tgt := 95) hx hb dX10_clears_113 (by decide) ?_
        exact ih14 (z_20, G_18) _ _ _ (by show (3 - z_20.toInt).toNat < (3 - x14_1.toInt).toNat; omega) ⟨(by show 0 ≤ z_20.toInt; omega), (by show z_20.toInt ≤ 3; omega), (show z_13 = G_18.1 sa 25 from by first | exact k_19 | omega), hF, hT, hS, lv_sub hl [0, 1] rfl⟩
    · skip
      have tc_12 : ¬ 6 ≤ x11_1.toInt := fun h => c_12 ((fa_le _ _).mpr h)
      refine lv_aload_n hx hb dX10_clears_59 rfl (lv_at hl 1 rfl) ?_
      refine t_getr cf_11 hx hb hts hown hK hT h_a (k := 24) (P := fun q => τ q = 74) rfl (fun _ h9 => h9) fl_X10_55 (fun _ h9 => h9) dX10_clears_60 (fun q_21 eq_21 hq_21 => ?_)
      have w_22 : sa = q_21 := Option.some.inj (e_sa.symm.trans ((hF.r h_a (by decide) rfl _).symm.trans eq_21))
      subst w_22
      refine lv_bipush (v := 24) hx hb dX10_clears_63 (by decide) ?_
      refine lv_iload_n hx hb dX10_clears_65 rfl (lv_at hl 0 rfl) ?_
      refine lv_iadd hx hb dX10_clears_66 ?_
      refine lv_topi (fun z_23 ez_23 => ?_)
      have tz_23 : z_23.toInt = 24 + x11_1.toInt := add_t ez_23 (show -2147483648 ≤ 24 + x11_1.toInt by omega) (show 24 + x11_1.toInt < 2147483648 by omega)
      refine lv_iload_n hx hb dX10_clears_67 rfl (lv_at hl 0 rfl) ?_
      refine lv_if_ne (tgt := 75) hx hb dX10_clears_68 (by decide) (fun c_24 => ?_) (fun c_24 => ?_)
      · skip
        have tc_24 : ¬ x11_1.toInt = 0 := fun h => c_24 ((fa_eq _ _).mpr h)
        refine lv_iload_n hx hb dX10_clears_75 rfl (lv_at hl 0 rfl) ?_
        refine lv_iconst (v := 1) hx hb dX10_clears_76 (by decide) ?_
        refine lv_icmp_ne (tgt := 85) hx hb dX10_clears_77 (by decide) (fun c_25 => ?_) (fun c_25 => ?_)
        · skip
          have tc_25 : ¬ x11_1.toInt = 1 := fun h => c_25 ((fa_eq _ _).mpr h)
          refine lv_iconst (v := 0) hx hb dX10_clears_85 (by decide) ?_
          refine t_iast (n := 30) (i := z_23) (x := 0) rfl (by decide) hx hb hK hT hS h_sa (hT.len h_sa (by decide)) ⟨by omega, by omega⟩ (show (z_23.toInt.toNat % 6 = 0 → 0 ≤ (0 : Int32).toInt ∧ (0 : Int32).toInt ≤ 9) ∧ (z_23.toInt.toNat % 6 = 1 → 0 ≤ (0 : Int32).toInt ∧ (0 : Int32).toInt ≤ 50) ∧ (z_23.toInt.toNat % 6 = 3 → 0 ≤ (0 : Int32).toInt ∧ (0 : Int32).toInt ≤ 50) from by (have e9 : (0 : Int32).toInt = 0 := rfl); omega) dX10_clears_86 (fun H locs G_26 eG_26 hT hS => ?_)
          have hF := hF.wI eG_26 h_sa rfl
          obtain ⟨z_27, ez_27⟩ : ∃ y : Int32, y = x11_1 + 1 := ⟨_, rfl⟩
          have tz_27 : z_27.toInt = x11_1.toInt + 1 := add_t ez_27 (show -2147483648 ≤ x11_1.toInt + 1 by omega) (show x11_1.toInt + 1 < 2147483648 by omega)
          refine lv_iinc (v := z_27) (lv' := [(1, .int z_27), (0, .ref a)]) hx hb dX10_clears_87 hl (k := 0) rfl (by rw [ez_27]; rfl) (by decide) rfl (fun ls hl => ?_)
          refine lv_goto (tgt := 53) hx hb dX10_clears_90 (by decide) ?_
          exact ih11 (z_27, G_26) _ _ _ (by show (6 - z_27.toInt).toNat < (6 - x11_1.toInt).toNat; omega) ⟨(by show 0 ≤ z_27.toInt; omega), (by show z_27.toInt ≤ 6; omega), by show z_27.toInt ≤ 1 ∨ 1 ≤ (G_26.1 sa 25).toInt; exact (Classical.em (z_23.toInt = 25)).elim (fun h9 => Or.inr (by rw [eG_26, show (25 : Nat) = z_23.toNatClampNeg from (by show (25 : Nat) = z_23.toInt.toNat; omega), wI_at]; exfalso; omega)) (fun h9 => i11_2.elim (fun h8 => Or.inl (by omega)) (fun h8 => Or.inr (by rw [eG_26, wI_ne (Or.inr (by show (25 : Nat) ≠ z_23.toInt.toNat; omega))]; exact h8))), hF, hT, hS, lv_sub hl [0, 1] rfl⟩
        · skip
          have tc_25 : x11_1.toInt = 1 := (fa_eq _ _).mp c_25
          refine lv_bipush (v := 10) hx hb dX10_clears_80 (by decide) ?_
          refine lv_goto (tgt := 86) hx hb dX10_clears_82 (by decide) ?_
          refine t_iast (n := 30) (i := z_23) (x := 10) rfl (by decide) hx hb hK hT hS h_sa (hT.len h_sa (by decide)) ⟨by omega, by omega⟩ (show (z_23.toInt.toNat % 6 = 0 → 0 ≤ (10 : Int32).toInt ∧ (10 : Int32).toInt ≤ 9) ∧ (z_23.toInt.toNat % 6 = 1 → 0 ≤ (10 : Int32).toInt ∧ (10 : Int32).toInt ≤ 50) ∧ (z_23.toInt.toNat % 6 = 3 → 0 ≤ (10 : Int32).toInt ∧ (10 : Int32).toInt ≤ 50) from by (have e9 : (10 : Int32).toInt = 10 := rfl); omega) dX10_clears_86 (fun H locs G_28 eG_28 hT hS => ?_)
          have hF := hF.wI eG_28 h_sa rfl
          obtain ⟨z_29, ez_29⟩ : ∃ y : Int32, y = x11_1 + 1 := ⟨_, rfl⟩
          have tz_29 : z_29.toInt = x11_1.toInt + 1 := add_t ez_29 (show -2147483648 ≤ x11_1.toInt + 1 by omega) (show x11_1.toInt + 1 < 2147483648 by omega)
          refine lv_iinc (v := z_29) (lv' := [(1, .int z_29), (0, .ref a)]) hx hb dX10_clears_87 hl (k := 0) rfl (by rw [ez_29]; rfl) (by decide) rfl (fun ls hl => ?_)
          refine lv_goto (tgt := 53) hx hb dX10_clears_90 (by decide) ?_
          exact ih11 (z_29, G_28) _ _ _ (by show (6 - z_29.toInt).toNat < (6 - x11_1.toInt).toNat; omega) ⟨(by show 0 ≤ z_29.toInt; omega), (by show z_29.toInt ≤ 6; omega), by show z_29.toInt ≤ 1 ∨ 1 ≤ (G_28.1 sa 25).toInt; exact (Classical.em (z_23.toInt = 25)).elim (fun h9 => Or.inr (by rw [eG_28, show (25 : Nat) = z_23.toNatClampNeg from (by show (25 : Nat) = z_23.toInt.toNat; omega), wI_at]; show (1 : Int) ≤ (10 : Int32).toInt; decide)) (fun h9 => i11_2.elim (fun h8 => Or.inl (by omega)) (fun h8 => Or.inr (by rw [eG_28, wI_ne (Or.inr (by show (25 : Nat) ≠ z_23.toInt.toNat; omega))]; exact h8))), hF, hT, hS, lv_sub hl [0, 1] rfl⟩
      · skip
        have tc_24 : x11_1.toInt = 0 := (fa_eq _ _).mp c_24
        refine lv_iconst (v := 1) hx hb dX10_clears_71 (by decide) ?_
        refine lv_goto (tgt := 86) hx hb dX10_clears_72 (by decide) ?_
        refine t_iast (n := 30) (i := z_23) (x := 1) rfl (by decide) hx hb hK hT hS h_sa (hT.len h_sa (by decide)) ⟨by omega, by omega⟩ (show (z_23.toInt.toNat % 6 = 0 → 0 ≤ (1 : Int32).toInt ∧ (1 : Int32).toInt ≤ 9) ∧ (z_23.toInt.toNat % 6 = 1 → 0 ≤ (1 : Int32).toInt ∧ (1 : Int32).toInt ≤ 50) ∧ (z_23.toInt.toNat % 6 = 3 → 0 ≤ (1 : Int32).toInt ∧ (1 : Int32).toInt ≤ 50) from by (have e9 : (1 : Int32).toInt = 1 := rfl); omega) dX10_clears_86 (fun H locs G_30 eG_30 hT hS => ?_)
        have hF := hF.wI eG_30 h_sa rfl
        obtain ⟨z_31, ez_31⟩ : ∃ y : Int32, y = x11_1 + 1 := ⟨_, rfl⟩
        have tz_31 : z_31.toInt = x11_1.toInt + 1 := add_t ez_31 (show -2147483648 ≤ x11_1.toInt + 1 by omega) (show x11_1.toInt + 1 < 2147483648 by omega)
        refine lv_iinc (v := z_31) (lv' := [(1, .int z_31), (0, .ref a)]) hx hb dX10_clears_87 hl (k := 0) rfl (by rw [ez_31]; rfl) (by decide) rfl (fun ls hl => ?_)
        refine lv_goto (tgt := 53) hx hb dX10_clears_90 (by decide) ?_
        exact ih11 (z_31, G_30) _ _ _ (by show (6 - z_31.toInt).toNat < (6 - x11_1.toInt).toNat; omega) ⟨(by show 0 ≤ z_31.toInt; omega), (by show z_31.toInt ≤ 6; omega), by show z_31.toInt ≤ 1 ∨ 1 ≤ (G_30.1 sa 25).toInt; exact (Classical.em (z_23.toInt = 25)).elim (fun h9 => Or.inr (by rw [eG_30, show (25 : Nat) = z_23.toNatClampNeg from (by show (25 : Nat) = z_23.toInt.toNat; omega), wI_at]; show (1 : Int) ≤ (1 : Int32).toInt; decide)) (fun h9 => i11_2.elim (fun h8 => Or.inl (by omega)) (fun h8 => Or.inr (by rw [eG_30, wI_ne (Or.inr (by show (25 : Nat) ≠ z_23.toInt.toNat; omega))]; exact h8))), hF, hT, hS, lv_sub hl [0, 1] rfl⟩
  · skip
    have tc_4 : ¬ 4 ≤ x3_1.toInt := fun h => c_4 ((fa_le _ _).mpr h)
    refine lv_aload_n hx hb dX10_clears_14 rfl (lv_at hl 1 rfl) ?_
    refine t_getr cf_11 hx hb hts hown hK hT h_a (k := 17) (P := fun q => τ q = 67) rfl (fun _ h9 => h9) fl_X10_34 (fun _ h9 => h9) dX10_clears_15 (fun q_32 eq_32 hq_32 => ?_)
    have eq_32 := (hF.r h_a (by decide) rfl _).symm.trans eq_32
    refine lv_bipush (v := 16) hx hb dX10_clears_18 (by decide) ?_
    refine lv_iload_n hx hb dX10_clears_20 rfl (lv_at hl 0 rfl) ?_
    refine lv_iadd hx hb dX10_clears_21 ?_
    refine lv_topi (fun z_33 ez_33 => ?_)
    have tz_33 : z_33.toInt = 16 + x3_1.toInt := add_t ez_33 (show -2147483648 ≤ 16 + x3_1.toInt by omega) (show 16 + x3_1.toInt < 2147483648 by omega)
    refine lv_iconst (v := 0) hx hb dX10_clears_22 (by decide) ?_
    refine t_iast (n := 20) (i := z_33) (x := 0) rfl (by decide) hx hb hK hT hS hq_32 (hT.len hq_32 (by decide)) ⟨by omega, by omega⟩ (show (z_33.toInt.toNat % 4 = 0 → 0 ≤ (0 : Int32).toInt ∧ (0 : Int32).toInt ≤ 60) from by (have e9 : (0 : Int32).toInt = 0 := rfl); omega) dX10_clears_23 (fun H locs G_34 eG_34 hT hS => ?_)
    have hF := hF.wI eG_34 hq_32 rfl
    obtain ⟨z_35, ez_35⟩ : ∃ y : Int32, y = x3_1 + 1 := ⟨_, rfl⟩
    have tz_35 : z_35.toInt = x3_1.toInt + 1 := add_t ez_35 (show -2147483648 ≤ x3_1.toInt + 1 by omega) (show x3_1.toInt + 1 < 2147483648 by omega)
    refine lv_iinc (v := z_35) (lv' := [(1, .int z_35), (0, .ref a)]) hx hb dX10_clears_24 hl (k := 0) rfl (by rw [ez_35]; rfl) (by decide) rfl (fun ls hl => ?_)
    refine lv_goto (tgt := 9) hx hb dX10_clears_27 (by decide) ?_
    exact ih3 (z_35, G_34) _ _ _ (by show (4 - z_35.toInt).toNat < (4 - x3_1.toInt).toNat; omega) ⟨(by show 0 ≤ z_35.toInt; omega), (by show z_35.toInt ≤ 4; omega), hF, hT, hS, lv_sub hl [0, 1] rfl⟩
set_option maxHeartbeats 4000000 in
set_option maxRecDepth 100000 in
theorem t_X10_copyRow_66 (l : Launch) (D : va_G) (cy : Nat → ClassId) (base : Nat) (τ : Nat → Nat) (G : Gh) (ar : Nat) (h_ar : τ ar = 66) (x : Int32) (r_x : 0 ≤ x.toInt ∧ x.toInt ≤ 4) (y : Int32) (r_y : 0 ≤ y.toInt ∧ y.toInt ≤ 4) : MM l yX10_copyRow cX10_copyRow 5 none 0 0 0 D cy [.ref ar, .int 1, .int x, .int y] (PT D cy base τ G) (QT D cy base τ G [66] (fun v g => v = none ∧ ((∀ j : Nat, g.1 ar j = if 1 * y.toInt.toNat ≤ j ∧ j < 1 * y.toInt.toNat + 1 then G.1 ar (1 * x.toInt.toNat + (j - 1 * y.toInt.toNat)) else G.1 ar j)))) (RA base) := by
  refine MM.of (by decide) (Nat.le_of_ble_eq_true rfl) ?_
  intro p e s m below meth c C hPT ls hl
  obtain ⟨hx, hb, hr, hml, hown, hts, hlocks, hK, hnm⟩ := C
  obtain ⟨hZ, hT⟩ := hPT
  have hS : va_S (RA base) s.heap s.heap [] := va_S.rf
  have hF : Fr τ [66] G G := Fr.rf
  have hl : lv_has ls 5 [(0, .ref ar), (1, .int 1), (2, .int x), (3, .int y)] := hl
  refine lv_iconst (v := 0) hx hb dX10_copyRow_0 (by decide) ?_
  refine lv_istore (lv' := [(4, .int 0), (0, .ref ar), (1, .int 1), (2, .int x), (3, .int y)]) hx hb dX10_copyRow_1 hl (by decide) rfl (fun ls hl => ?_)
  refine W.loop (σ := Int32 × Gh) (fun w1 H locs ls => 0 ≤ w1.1.toInt ∧ w1.1.toInt ≤ 1 ∧ (∀ j : Nat, w1.2.1 ar j = if 1 * y.toInt.toNat ≤ j ∧ j < 1 * y.toInt.toNat + w1.1.toInt.toNat then G.1 ar (1 * x.toInt.toNat + (j - 1 * y.toInt.toNat)) else G.1 ar j) ∧ Fr τ [66] G w1.2 ∧ TY D cy base τ w1.2 H ∧ va_S (RA base) s.heap H locs ∧ lv_has ls 5 [(4, .int w1.1), (0, .ref ar), (1, .int 1), (2, .int x), (3, .int y)]) (fun w1 => (1 - w1.1.toInt).toNat) ?_ ((0 : Int32), G) _ _ _ ⟨(by show 0 ≤ (0 : Int32).toInt; decide), (by show (0 : Int32).toInt ≤ 1; decide), (by show ∀ j : Nat, G.1 ar j = if 1 * y.toInt.toNat ≤ j ∧ j < 1 * y.toInt.toNat + (0 : Int).toNat then G.1 ar (1 * x.toInt.toNat + (j - 1 * y.toInt.toNat)) else G.1 ar j; intro j; rw [if_neg (by omega)]), hF, hT, hS, lv_sub hl [0, 1, 2, 3, 4] rfl⟩
  intro w1 H locs ls hI ih1
  obtain ⟨x1_4, G_1⟩ := w1
  obtain ⟨i1_0, i1_1, i1_2, hF, hT, hS, hl⟩ := hI
  have i1_0 : 0 ≤ x1_4.toInt := i1_0
  have i1_1 : x1_4.toInt ≤ 1 := i1_1
  have i1_2 : (∀ j : Nat, G_1.1 ar j = if 1 * y.toInt.toNat ≤ j ∧ j < 1 * y.toInt.toNat + x1_4.toInt.toNat then G.1 ar (1 * x.toInt.toNat + (j - 1 * y.toInt.toNat)) else G.1 ar j) := i1_2
  have hF : Fr τ [66] G G_1 := hF
  have hT : TY D cy base τ G_1 H := hT
  have hS : va_S (RA base) s.heap H locs := hS
  have hl : lv_has ls 5 [(4, .int x1_4), (0, .ref ar), (1, .int 1), (2, .int x), (3, .int y)] := hl
  refine lv_iload hx hb dX10_copyRow_3 (lv_at hl 0 rfl) ?_
  refine lv_iload_n hx hb dX10_copyRow_5 rfl (lv_at hl 2 rfl) ?_
  refine lv_icmp_ge (tgt := 31) hx hb dX10_copyRow_6 (by decide) (fun c_2 => ?_) (fun c_2 => ?_)
  · skip
    have tc_2 : 1 ≤ x1_4.toInt := (fa_le _ _).mp c_2
    exact ret_v hx hb hr hlocks ⟨⟨hS.1, hS.2.1⟩, G_1, hF, ⟨rfl, (by have q9 := i1_2; rw [show x1_4.toInt.toNat = 1 by omega] at q9; exact q9)⟩, hT⟩ hS.2.2 (Nat.le_of_ble_eq_true rfl) (Nat.le_of_ble_eq_true rfl) dX10_copyRow_31
  · skip
    have tc_2 : ¬ 1 ≤ x1_4.toInt := fun h => c_2 ((fa_le _ _).mpr h)
    refine lv_aload_n hx hb dX10_copyRow_9 rfl (lv_at hl 1 rfl) ?_
    refine lv_iload_n hx hb dX10_copyRow_10 rfl (lv_at hl 2 rfl) ?_
    refine lv_iload_n hx hb dX10_copyRow_11 rfl (lv_at hl 4 rfl) ?_
    refine lv_imul hx hb dX10_copyRow_12 ?_
    refine lv_topi (fun z_3 ez_3 => ?_)
    have tz_3 : z_3.toInt = 1 * y.toInt := mul_t ez_3 (show -2147483648 ≤ 1 * y.toInt by omega) (show 1 * y.toInt < 2147483648 by omega)
    refine lv_iload hx hb dX10_copyRow_13 (lv_at hl 0 rfl) ?_
    refine lv_iadd hx hb dX10_copyRow_15 ?_
    refine lv_topi (fun z_4 ez_4 => ?_)
    have tz_4 : z_4.toInt = z_3.toInt + x1_4.toInt := add_t ez_4 (show -2147483648 ≤ z_3.toInt + x1_4.toInt by omega) (show z_3.toInt + x1_4.toInt < 2147483648 by omega)
    refine lv_aload_n hx hb dX10_copyRow_16 rfl (lv_at hl 1 rfl) ?_
    refine lv_iload_n hx hb dX10_copyRow_17 rfl (lv_at hl 2 rfl) ?_
    refine lv_iload_n hx hb dX10_copyRow_18 rfl (lv_at hl 3 rfl) ?_
    refine lv_imul hx hb dX10_copyRow_19 ?_
    refine lv_topi (fun z_5 ez_5 => ?_)
    have tz_5 : z_5.toInt = 1 * x.toInt := mul_t ez_5 (show -2147483648 ≤ 1 * x.toInt by omega) (show 1 * x.toInt < 2147483648 by omega)
    refine lv_iload hx hb dX10_copyRow_20 (lv_at hl 0 rfl) ?_
    refine lv_iadd hx hb dX10_copyRow_22 ?_
    refine lv_topi (fun z_6 ez_6 => ?_)
    have tz_6 : z_6.toInt = z_5.toInt + x1_4.toInt := add_t ez_6 (show -2147483648 ≤ z_5.toInt + x1_4.toInt by omega) (show z_5.toInt + x1_4.toInt < 2147483648 by omega)
    refine t_iald (n := 5) (i := z_6) rfl (by decide) hx hb hK hT h_ar (hT.len h_ar (by decide)) ⟨by omega, by omega⟩ dX10_copyRow_23 (fun z_7 ez_7 rz_7 => ?_)
    refine t_iast (n := 5) (i := z_4) (x := z_7) rfl (by decide) hx hb hK hT hS h_ar (hT.len h_ar (by decide)) ⟨by omega, by omega⟩ trivial dX10_copyRow_24 (fun H locs G_8 eG_8 hT hS => ?_)
    have hF := hF.wI eG_8 h_ar rfl
    obtain ⟨z_9, ez_9⟩ : ∃ y : Int32, y = x1_4 + 1 := ⟨_, rfl⟩
    have tz_9 : z_9.toInt = x1_4.toInt + 1 := add_t ez_9 (show -2147483648 ≤ x1_4.toInt + 1 by omega) (show x1_4.toInt + 1 < 2147483648 by omega)
    refine lv_iinc (v := z_9) (lv' := [(4, .int z_9), (0, .ref ar), (1, .int 1), (2, .int x), (3, .int y)]) hx hb dX10_copyRow_25 hl (k := 0) rfl (by rw [ez_9]; rfl) (by decide) rfl (fun ls hl => ?_)
    refine lv_goto (tgt := 3) hx hb dX10_copyRow_28 (by decide) ?_
    exact ih1 (z_9, G_8) _ _ _ (by show (1 - z_9.toInt).toNat < (1 - x1_4.toInt).toNat; omega) ⟨(by show 0 ≤ z_9.toInt; omega), (by show z_9.toInt ≤ 1; omega), by show ∀ j : Nat, G_8.1 ar j = if 1 * y.toInt.toNat ≤ j ∧ j < 1 * y.toInt.toNat + z_9.toInt.toNat then G.1 ar (1 * x.toInt.toNat + (j - 1 * y.toInt.toNat)) else G.1 ar j; have q1 : z_4.toNatClampNeg = 1 * y.toInt.toNat + x1_4.toInt.toNat := (show z_4.toInt.toNat = _ by omega); have q2 : z_6.toNatClampNeg = 1 * x.toInt.toNat + x1_4.toInt.toNat := (show z_6.toInt.toNat = _ by omega); have q3 := cp_step (A := 1 * x.toInt.toNat) (B := 1 * y.toInt.toNat) (k := x1_4.toInt.toNat) i1_2 (by omega); rw [← q1, ← q2] at q3; have q4 : z_9.toInt.toNat = x1_4.toInt.toNat + 1 := (by omega); rw [eG_8, wI_up, ez_7, q4]; exact q3, hF, hT, hS, lv_sub hl [0, 1, 2, 3, 4] rfl⟩
set_option maxHeartbeats 4000000 in
set_option maxRecDepth 100000 in
theorem t_X10_copyRow_67 (l : Launch) (D : va_G) (cy : Nat → ClassId) (base : Nat) (τ : Nat → Nat) (G : Gh) (ar : Nat) (h_ar : τ ar = 67) (x : Int32) (r_x : 0 ≤ x.toInt ∧ x.toInt ≤ 4) (y : Int32) (r_y : 0 ≤ y.toInt ∧ y.toInt ≤ 4) : MM l yX10_copyRow cX10_copyRow 5 none 0 0 0 D cy [.ref ar, .int 4, .int x, .int y] (PT D cy base τ G) (QT D cy base τ G [67] (fun v g => v = none ∧ ((∀ j : Nat, g.1 ar j = if 4 * y.toInt.toNat ≤ j ∧ j < 4 * y.toInt.toNat + 4 then G.1 ar (4 * x.toInt.toNat + (j - 4 * y.toInt.toNat)) else G.1 ar j)))) (RA base) := by
  refine MM.of (by decide) (Nat.le_of_ble_eq_true rfl) ?_
  intro p e s m below meth c C hPT ls hl
  obtain ⟨hx, hb, hr, hml, hown, hts, hlocks, hK, hnm⟩ := C
  obtain ⟨hZ, hT⟩ := hPT
  have hS : va_S (RA base) s.heap s.heap [] := va_S.rf
  have hF : Fr τ [67] G G := Fr.rf
  have hl : lv_has ls 5 [(0, .ref ar), (1, .int 4), (2, .int x), (3, .int y)] := hl
  refine lv_iconst (v := 0) hx hb dX10_copyRow_0 (by decide) ?_
  refine lv_istore (lv' := [(4, .int 0), (0, .ref ar), (1, .int 4), (2, .int x), (3, .int y)]) hx hb dX10_copyRow_1 hl (by decide) rfl (fun ls hl => ?_)
  refine W.loop (σ := Int32 × Gh) (fun w1 H locs ls => 0 ≤ w1.1.toInt ∧ w1.1.toInt ≤ 4 ∧ (∀ j : Nat, w1.2.1 ar j = if 4 * y.toInt.toNat ≤ j ∧ j < 4 * y.toInt.toNat + w1.1.toInt.toNat then G.1 ar (4 * x.toInt.toNat + (j - 4 * y.toInt.toNat)) else G.1 ar j) ∧ Fr τ [67] G w1.2 ∧ TY D cy base τ w1.2 H ∧ va_S (RA base) s.heap H locs ∧ lv_has ls 5 [(4, .int w1.1), (0, .ref ar), (1, .int 4), (2, .int x), (3, .int y)]) (fun w1 => (4 - w1.1.toInt).toNat) ?_ ((0 : Int32), G) _ _ _ ⟨(by show 0 ≤ (0 : Int32).toInt; decide), (by show (0 : Int32).toInt ≤ 4; decide), (by show ∀ j : Nat, G.1 ar j = if 4 * y.toInt.toNat ≤ j ∧ j < 4 * y.toInt.toNat + (0 : Int).toNat then G.1 ar (4 * x.toInt.toNat + (j - 4 * y.toInt.toNat)) else G.1 ar j; intro j; rw [if_neg (by omega)]), hF, hT, hS, lv_sub hl [0, 1, 2, 3, 4] rfl⟩
  intro w1 H locs ls hI ih1
  obtain ⟨x1_4, G_1⟩ := w1
  obtain ⟨i1_0, i1_1, i1_2, hF, hT, hS, hl⟩ := hI
  have i1_0 : 0 ≤ x1_4.toInt := i1_0
  have i1_1 : x1_4.toInt ≤ 4 := i1_1
  have i1_2 : (∀ j : Nat, G_1.1 ar j = if 4 * y.toInt.toNat ≤ j ∧ j < 4 * y.toInt.toNat + x1_4.toInt.toNat then G.1 ar (4 * x.toInt.toNat + (j - 4 * y.toInt.toNat)) else G.1 ar j) := i1_2
  have hF : Fr τ [67] G G_1 := hF
  have hT : TY D cy base τ G_1 H := hT
  have hS : va_S (RA base) s.heap H locs := hS
  have hl : lv_has ls 5 [(4, .int x1_4), (0, .ref ar), (1, .int 4), (2, .int x), (3, .int y)] := hl
  refine lv_iload hx hb dX10_copyRow_3 (lv_at hl 0 rfl) ?_
  refine lv_iload_n hx hb dX10_copyRow_5 rfl (lv_at hl 2 rfl) ?_
  refine lv_icmp_ge (tgt := 31) hx hb dX10_copyRow_6 (by decide) (fun c_2 => ?_) (fun c_2 => ?_)
  · skip
    have tc_2 : 4 ≤ x1_4.toInt := (fa_le _ _).mp c_2
    exact ret_v hx hb hr hlocks ⟨⟨hS.1, hS.2.1⟩, G_1, hF, ⟨rfl, (by have q9 := i1_2; rw [show x1_4.toInt.toNat = 4 by omega] at q9; exact q9)⟩, hT⟩ hS.2.2 (Nat.le_of_ble_eq_true rfl) (Nat.le_of_ble_eq_true rfl) dX10_copyRow_31
  · skip
    have tc_2 : ¬ 4 ≤ x1_4.toInt := fun h => c_2 ((fa_le _ _).mpr h)
    refine lv_aload_n hx hb dX10_copyRow_9 rfl (lv_at hl 1 rfl) ?_
    refine lv_iload_n hx hb dX10_copyRow_10 rfl (lv_at hl 2 rfl) ?_
    refine lv_iload_n hx hb dX10_copyRow_11 rfl (lv_at hl 4 rfl) ?_
    refine lv_imul hx hb dX10_copyRow_12 ?_
    refine lv_topi (fun z_3 ez_3 => ?_)
    have tz_3 : z_3.toInt = 4 * y.toInt := mul_t ez_3 (show -2147483648 ≤ 4 * y.toInt by omega) (show 4 * y.toInt < 2147483648 by omega)
    refine lv_iload hx hb dX10_copyRow_13 (lv_at hl 0 rfl) ?_
    refine lv_iadd hx hb dX10_copyRow_15 ?_
    refine lv_topi (fun z_4 ez_4 => ?_)
    have tz_4 : z_4.toInt = z_3.toInt + x1_4.toInt := add_t ez_4 (show -2147483648 ≤ z_3.toInt + x1_4.toInt by omega) (show z_3.toInt + x1_4.toInt < 2147483648 by omega)
    refine lv_aload_n hx hb dX10_copyRow_16 rfl (lv_at hl 1 rfl) ?_
    refine lv_iload_n hx hb dX10_copyRow_17 rfl (lv_at hl 2 rfl) ?_
    refine lv_iload_n hx hb dX10_copyRow_18 rfl (lv_at hl 3 rfl) ?_
    refine lv_imul hx hb dX10_copyRow_19 ?_
    refine lv_topi (fun z_5 ez_5 => ?_)
    have tz_5 : z_5.toInt = 4 * x.toInt := mul_t ez_5 (show -2147483648 ≤ 4 * x.toInt by omega) (show 4 * x.toInt < 2147483648 by omega)
    refine lv_iload hx hb dX10_copyRow_20 (lv_at hl 0 rfl) ?_
    refine lv_iadd hx hb dX10_copyRow_22 ?_
    refine lv_topi (fun z_6 ez_6 => ?_)
    have tz_6 : z_6.toInt = z_5.toInt + x1_4.toInt := add_t ez_6 (show -2147483648 ≤ z_5.toInt + x1_4.toInt by omega) (show z_5.toInt + x1_4.toInt < 2147483648 by omega)
    refine t_iald (n := 20) (i := z_6) rfl (by decide) hx hb hK hT h_ar (hT.len h_ar (by decide)) ⟨by omega, by omega⟩ dX10_copyRow_23 (fun z_7 ez_7 rz_7 => ?_)
    have qz_7 : (z_6.toInt.toNat % 4 = 0 → 0 ≤ z_7.toInt ∧ z_7.toInt ≤ 60) := rz_7
    refine t_iast (n := 20) (i := z_4) (x := z_7) rfl (by decide) hx hb hK hT hS h_ar (hT.len h_ar (by decide)) ⟨by omega, by omega⟩ (show (z_4.toInt.toNat % 4 = 0 → 0 ≤ z_7.toInt ∧ z_7.toInt ≤ 60) from by omega) dX10_copyRow_24 (fun H locs G_8 eG_8 hT hS => ?_)
    have hF := hF.wI eG_8 h_ar rfl
    obtain ⟨z_9, ez_9⟩ : ∃ y : Int32, y = x1_4 + 1 := ⟨_, rfl⟩
    have tz_9 : z_9.toInt = x1_4.toInt + 1 := add_t ez_9 (show -2147483648 ≤ x1_4.toInt + 1 by omega) (show x1_4.toInt + 1 < 2147483648 by omega)
    refine lv_iinc (v := z_9) (lv' := [(4, .int z_9), (0, .ref ar), (1, .int 4), (2, .int x), (3, .int y)]) hx hb dX10_copyRow_25 hl (k := 0) rfl (by rw [ez_9]; rfl) (by decide) rfl (fun ls hl => ?_)
    refine lv_goto (tgt := 3) hx hb dX10_copyRow_28 (by decide) ?_
    exact ih1 (z_9, G_8) _ _ _ (by show (4 - z_9.toInt).toNat < (4 - x1_4.toInt).toNat; omega) ⟨(by show 0 ≤ z_9.toInt; omega), (by show z_9.toInt ≤ 4; omega), by show ∀ j : Nat, G_8.1 ar j = if 4 * y.toInt.toNat ≤ j ∧ j < 4 * y.toInt.toNat + z_9.toInt.toNat then G.1 ar (4 * x.toInt.toNat + (j - 4 * y.toInt.toNat)) else G.1 ar j; have q1 : z_4.toNatClampNeg = 4 * y.toInt.toNat + x1_4.toInt.toNat := (show z_4.toInt.toNat = _ by omega); have q2 : z_6.toNatClampNeg = 4 * x.toInt.toNat + x1_4.toInt.toNat := (show z_6.toInt.toNat = _ by omega); have q3 := cp_step (A := 4 * x.toInt.toNat) (B := 4 * y.toInt.toNat) (k := x1_4.toInt.toNat) i1_2 (by omega); rw [← q1, ← q2] at q3; have q4 : z_9.toInt.toNat = x1_4.toInt.toNat + 1 := (by omega); rw [eG_8, wI_up, ez_7, q4]; exact q3, hF, hT, hS, lv_sub hl [0, 1, 2, 3, 4] rfl⟩
set_option maxHeartbeats 4000000 in
set_option maxRecDepth 100000 in
theorem t_X10_copyRow_68 (l : Launch) (D : va_G) (cy : Nat → ClassId) (base : Nat) (τ : Nat → Nat) (G : Gh) (ar : Nat) (h_ar : τ ar = 68) (x : Int32) (r_x : 0 ≤ x.toInt ∧ x.toInt ≤ 4) (y : Int32) (r_y : 0 ≤ y.toInt ∧ y.toInt ≤ 4) : MM l yX10_copyRow cX10_copyRow 5 none 0 0 0 D cy [.ref ar, .int 1, .int x, .int y] (PT D cy base τ G) (QT D cy base τ G [68] (fun v g => v = none ∧ ((∀ j : Nat, g.1 ar j = if 1 * y.toInt.toNat ≤ j ∧ j < 1 * y.toInt.toNat + 1 then G.1 ar (1 * x.toInt.toNat + (j - 1 * y.toInt.toNat)) else G.1 ar j)))) (RA base) := by
  refine MM.of (by decide) (Nat.le_of_ble_eq_true rfl) ?_
  intro p e s m below meth c C hPT ls hl
  obtain ⟨hx, hb, hr, hml, hown, hts, hlocks, hK, hnm⟩ := C
  obtain ⟨hZ, hT⟩ := hPT
  have hS : va_S (RA base) s.heap s.heap [] := va_S.rf
  have hF : Fr τ [68] G G := Fr.rf
  have hl : lv_has ls 5 [(0, .ref ar), (1, .int 1), (2, .int x), (3, .int y)] := hl
  refine lv_iconst (v := 0) hx hb dX10_copyRow_0 (by decide) ?_
  refine lv_istore (lv' := [(4, .int 0), (0, .ref ar), (1, .int 1), (2, .int x), (3, .int y)]) hx hb dX10_copyRow_1 hl (by decide) rfl (fun ls hl => ?_)
  refine W.loop (σ := Int32 × Gh) (fun w1 H locs ls => 0 ≤ w1.1.toInt ∧ w1.1.toInt ≤ 1 ∧ (∀ j : Nat, w1.2.1 ar j = if 1 * y.toInt.toNat ≤ j ∧ j < 1 * y.toInt.toNat + w1.1.toInt.toNat then G.1 ar (1 * x.toInt.toNat + (j - 1 * y.toInt.toNat)) else G.1 ar j) ∧ Fr τ [68] G w1.2 ∧ TY D cy base τ w1.2 H ∧ va_S (RA base) s.heap H locs ∧ lv_has ls 5 [(4, .int w1.1), (0, .ref ar), (1, .int 1), (2, .int x), (3, .int y)]) (fun w1 => (1 - w1.1.toInt).toNat) ?_ ((0 : Int32), G) _ _ _ ⟨(by show 0 ≤ (0 : Int32).toInt; decide), (by show (0 : Int32).toInt ≤ 1; decide), (by show ∀ j : Nat, G.1 ar j = if 1 * y.toInt.toNat ≤ j ∧ j < 1 * y.toInt.toNat + (0 : Int).toNat then G.1 ar (1 * x.toInt.toNat + (j - 1 * y.toInt.toNat)) else G.1 ar j; intro j; rw [if_neg (by omega)]), hF, hT, hS, lv_sub hl [0, 1, 2, 3, 4] rfl⟩
  intro w1 H locs ls hI ih1
  obtain ⟨x1_4, G_1⟩ := w1
  obtain ⟨i1_0, i1_1, i1_2, hF, hT, hS, hl⟩ := hI
  have i1_0 : 0 ≤ x1_4.toInt := i1_0
  have i1_1 : x1_4.toInt ≤ 1 := i1_1
  have i1_2 : (∀ j : Nat, G_1.1 ar j = if 1 * y.toInt.toNat ≤ j ∧ j < 1 * y.toInt.toNat + x1_4.toInt.toNat then G.1 ar (1 * x.toInt.toNat + (j - 1 * y.toInt.toNat)) else G.1 ar j) := i1_2
  have hF : Fr τ [68] G G_1 := hF
  have hT : TY D cy base τ G_1 H := hT
  have hS : va_S (RA base) s.heap H locs := hS
  have hl : lv_has ls 5 [(4, .int x1_4), (0, .ref ar), (1, .int 1), (2, .int x), (3, .int y)] := hl
  refine lv_iload hx hb dX10_copyRow_3 (lv_at hl 0 rfl) ?_
  refine lv_iload_n hx hb dX10_copyRow_5 rfl (lv_at hl 2 rfl) ?_
  refine lv_icmp_ge (tgt := 31) hx hb dX10_copyRow_6 (by decide) (fun c_2 => ?_) (fun c_2 => ?_)
  · skip
    have tc_2 : 1 ≤ x1_4.toInt := (fa_le _ _).mp c_2
    exact ret_v hx hb hr hlocks ⟨⟨hS.1, hS.2.1⟩, G_1, hF, ⟨rfl, (by have q9 := i1_2; rw [show x1_4.toInt.toNat = 1 by omega] at q9; exact q9)⟩, hT⟩ hS.2.2 (Nat.le_of_ble_eq_true rfl) (Nat.le_of_ble_eq_true rfl) dX10_copyRow_31
  · skip
    have tc_2 : ¬ 1 ≤ x1_4.toInt := fun h => c_2 ((fa_le _ _).mpr h)
    refine lv_aload_n hx hb dX10_copyRow_9 rfl (lv_at hl 1 rfl) ?_
    refine lv_iload_n hx hb dX10_copyRow_10 rfl (lv_at hl 2 rfl) ?_
    refine lv_iload_n hx hb dX10_copyRow_11 rfl (lv_at hl 4 rfl) ?_
    refine lv_imul hx hb dX10_copyRow_12 ?_
    refine lv_topi (fun z_3 ez_3 => ?_)
    have tz_3 : z_3.toInt = 1 * y.toInt := mul_t ez_3 (show -2147483648 ≤ 1 * y.toInt by omega) (show 1 * y.toInt < 2147483648 by omega)
    refine lv_iload hx hb dX10_copyRow_13 (lv_at hl 0 rfl) ?_
    refine lv_iadd hx hb dX10_copyRow_15 ?_
    refine lv_topi (fun z_4 ez_4 => ?_)
    have tz_4 : z_4.toInt = z_3.toInt + x1_4.toInt := add_t ez_4 (show -2147483648 ≤ z_3.toInt + x1_4.toInt by omega) (show z_3.toInt + x1_4.toInt < 2147483648 by omega)
    refine lv_aload_n hx hb dX10_copyRow_16 rfl (lv_at hl 1 rfl) ?_
    refine lv_iload_n hx hb dX10_copyRow_17 rfl (lv_at hl 2 rfl) ?_
    refine lv_iload_n hx hb dX10_copyRow_18 rfl (lv_at hl 3 rfl) ?_
    refine lv_imul hx hb dX10_copyRow_19 ?_
    refine lv_topi (fun z_5 ez_5 => ?_)
    have tz_5 : z_5.toInt = 1 * x.toInt := mul_t ez_5 (show -2147483648 ≤ 1 * x.toInt by omega) (show 1 * x.toInt < 2147483648 by omega)
    refine lv_iload hx hb dX10_copyRow_20 (lv_at hl 0 rfl) ?_
    refine lv_iadd hx hb dX10_copyRow_22 ?_
    refine lv_topi (fun z_6 ez_6 => ?_)
    have tz_6 : z_6.toInt = z_5.toInt + x1_4.toInt := add_t ez_6 (show -2147483648 ≤ z_5.toInt + x1_4.toInt by omega) (show z_5.toInt + x1_4.toInt < 2147483648 by omega)
    refine t_iald (n := 5) (i := z_6) rfl (by decide) hx hb hK hT h_ar (hT.len h_ar (by decide)) ⟨by omega, by omega⟩ dX10_copyRow_23 (fun z_7 ez_7 rz_7 => ?_)
    have rz_7 : 0 ≤ z_7.toInt ∧ z_7.toInt ≤ 3 := rz_7
    refine t_iast (n := 5) (i := z_4) (x := z_7) rfl (by decide) hx hb hK hT hS h_ar (hT.len h_ar (by decide)) ⟨by omega, by omega⟩ (show 0 ≤ z_7.toInt ∧ z_7.toInt ≤ 3 from ⟨by omega, by omega⟩) dX10_copyRow_24 (fun H locs G_8 eG_8 hT hS => ?_)
    have hF := hF.wI eG_8 h_ar rfl
    obtain ⟨z_9, ez_9⟩ : ∃ y : Int32, y = x1_4 + 1 := ⟨_, rfl⟩
    have tz_9 : z_9.toInt = x1_4.toInt + 1 := add_t ez_9 (show -2147483648 ≤ x1_4.toInt + 1 by omega) (show x1_4.toInt + 1 < 2147483648 by omega)
    refine lv_iinc (v := z_9) (lv' := [(4, .int z_9), (0, .ref ar), (1, .int 1), (2, .int x), (3, .int y)]) hx hb dX10_copyRow_25 hl (k := 0) rfl (by rw [ez_9]; rfl) (by decide) rfl (fun ls hl => ?_)
    refine lv_goto (tgt := 3) hx hb dX10_copyRow_28 (by decide) ?_
    exact ih1 (z_9, G_8) _ _ _ (by show (1 - z_9.toInt).toNat < (1 - x1_4.toInt).toNat; omega) ⟨(by show 0 ≤ z_9.toInt; omega), (by show z_9.toInt ≤ 1; omega), by show ∀ j : Nat, G_8.1 ar j = if 1 * y.toInt.toNat ≤ j ∧ j < 1 * y.toInt.toNat + z_9.toInt.toNat then G.1 ar (1 * x.toInt.toNat + (j - 1 * y.toInt.toNat)) else G.1 ar j; have q1 : z_4.toNatClampNeg = 1 * y.toInt.toNat + x1_4.toInt.toNat := (show z_4.toInt.toNat = _ by omega); have q2 : z_6.toNatClampNeg = 1 * x.toInt.toNat + x1_4.toInt.toNat := (show z_6.toInt.toNat = _ by omega); have q3 := cp_step (A := 1 * x.toInt.toNat) (B := 1 * y.toInt.toNat) (k := x1_4.toInt.toNat) i1_2 (by omega); rw [← q1, ← q2] at q3; have q4 : z_9.toInt.toNat = x1_4.toInt.toNat + 1 := (by omega); rw [eG_8, wI_up, ez_7, q4]; exact q3, hF, hT, hS, lv_sub hl [0, 1, 2, 3, 4] rfl⟩
set_option maxHeartbeats 4000000 in
set_option maxRecDepth 100000 in
theorem t_X10_copyRow_69 (l : Launch) (D : va_G) (cy : Nat → ClassId) (base : Nat) (τ : Nat → Nat) (G : Gh) (ar : Nat) (h_ar : τ ar = 69) (x : Int32) (r_x : 0 ≤ x.toInt ∧ x.toInt ≤ 4) (y : Int32) (r_y : 0 ≤ y.toInt ∧ y.toInt ≤ 4) : MM l yX10_copyRow cX10_copyRow 5 none 0 0 0 D cy [.ref ar, .int 9, .int x, .int y] (PT D cy base τ G) (QT D cy base τ G [69] (fun v g => v = none ∧ ((∀ j : Nat, g.1 ar j = if 9 * y.toInt.toNat ≤ j ∧ j < 9 * y.toInt.toNat + 9 then G.1 ar (9 * x.toInt.toNat + (j - 9 * y.toInt.toNat)) else G.1 ar j)))) (RA base) := by
  refine MM.of (by decide) (Nat.le_of_ble_eq_true rfl) ?_
  intro p e s m below meth c C hPT ls hl
  obtain ⟨hx, hb, hr, hml, hown, hts, hlocks, hK, hnm⟩ := C
  obtain ⟨hZ, hT⟩ := hPT
  have hS : va_S (RA base) s.heap s.heap [] := va_S.rf
  have hF : Fr τ [69] G G := Fr.rf
  have hl : lv_has ls 5 [(0, .ref ar), (1, .int 9), (2, .int x), (3, .int y)] := hl
  refine lv_iconst (v := 0) hx hb dX10_copyRow_0 (by decide) ?_
  refine lv_istore (lv' := [(4, .int 0), (0, .ref ar), (1, .int 9), (2, .int x), (3, .int y)]) hx hb dX10_copyRow_1 hl (by decide) rfl (fun ls hl => ?_)
  refine W.loop (σ := Int32 × Gh) (fun w1 H locs ls => 0 ≤ w1.1.toInt ∧ w1.1.toInt ≤ 9 ∧ (∀ j : Nat, w1.2.1 ar j = if 9 * y.toInt.toNat ≤ j ∧ j < 9 * y.toInt.toNat + w1.1.toInt.toNat then G.1 ar (9 * x.toInt.toNat + (j - 9 * y.toInt.toNat)) else G.1 ar j) ∧ Fr τ [69] G w1.2 ∧ TY D cy base τ w1.2 H ∧ va_S (RA base) s.heap H locs ∧ lv_has ls 5 [(4, .int w1.1), (0, .ref ar), (1, .int 9), (2, .int x), (3, .int y)]) (fun w1 => (9 - w1.1.toInt).toNat) ?_ ((0 : Int32), G) _ _ _ ⟨(by show 0 ≤ (0 : Int32).toInt; decide), (by show (0 : Int32).toInt ≤ 9; decide), (by show ∀ j : Nat, G.1 ar j = if 9 * y.toInt.toNat ≤ j ∧ j < 9 * y.toInt.toNat + (0 : Int).toNat then G.1 ar (9 * x.toInt.toNat + (j - 9 * y.toInt.toNat)) else G.1 ar j; intro j; rw [if_neg (by omega)]), hF, hT, hS, lv_sub hl [0, 1, 2, 3, 4] rfl⟩
  intro w1 H locs ls hI ih1
  obtain ⟨x1_4, G_1⟩ := w1
  obtain ⟨i1_0, i1_1, i1_2, hF, hT, hS, hl⟩ := hI
  have i1_0 : 0 ≤ x1_4.toInt := i1_0
  have i1_1 : x1_4.toInt ≤ 9 := i1_1
  have i1_2 : (∀ j : Nat, G_1.1 ar j = if 9 * y.toInt.toNat ≤ j ∧ j < 9 * y.toInt.toNat + x1_4.toInt.toNat then G.1 ar (9 * x.toInt.toNat + (j - 9 * y.toInt.toNat)) else G.1 ar j) := i1_2
  have hF : Fr τ [69] G G_1 := hF
  have hT : TY D cy base τ G_1 H := hT
  have hS : va_S (RA base) s.heap H locs := hS
  have hl : lv_has ls 5 [(4, .int x1_4), (0, .ref ar), (1, .int 9), (2, .int x), (3, .int y)] := hl
  refine lv_iload hx hb dX10_copyRow_3 (lv_at hl 0 rfl) ?_
  refine lv_iload_n hx hb dX10_copyRow_5 rfl (lv_at hl 2 rfl) ?_
  refine lv_icmp_ge (tgt := 31) hx hb dX10_copyRow_6 (by decide) (fun c_2 => ?_) (fun c_2 => ?_)
  · skip
    have tc_2 : 9 ≤ x1_4.toInt := (fa_le _ _).mp c_2
    exact ret_v hx hb hr hlocks ⟨⟨hS.1, hS.2.1⟩, G_1, hF, ⟨rfl, (by have q9 := i1_2; rw [show x1_4.toInt.toNat = 9 by omega] at q9; exact q9)⟩, hT⟩ hS.2.2 (Nat.le_of_ble_eq_true rfl) (Nat.le_of_ble_eq_true rfl) dX10_copyRow_31
  · skip
    have tc_2 : ¬ 9 ≤ x1_4.toInt := fun h => c_2 ((fa_le _ _).mpr h)
    refine lv_aload_n hx hb dX10_copyRow_9 rfl (lv_at hl 1 rfl) ?_
    refine lv_iload_n hx hb dX10_copyRow_10 rfl (lv_at hl 2 rfl) ?_
    refine lv_iload_n hx hb dX10_copyRow_11 rfl (lv_at hl 4 rfl) ?_
    refine lv_imul hx hb dX10_copyRow_12 ?_
    refine lv_topi (fun z_3 ez_3 => ?_)
    have tz_3 : z_3.toInt = 9 * y.toInt := mul_t ez_3 (show -2147483648 ≤ 9 * y.toInt by omega) (show 9 * y.toInt < 2147483648 by omega)
    refine lv_iload hx hb dX10_copyRow_13 (lv_at hl 0 rfl) ?_
    refine lv_iadd hx hb dX10_copyRow_15 ?_
    refine lv_topi (fun z_4 ez_4 => ?_)
    have tz_4 : z_4.toInt = z_3.toInt + x1_4.toInt := add_t ez_4 (show -2147483648 ≤ z_3.toInt + x1_4.toInt by omega) (show z_3.toInt + x1_4.toInt < 2147483648 by omega)
    refine lv_aload_n hx hb dX10_copyRow_16 rfl (lv_at hl 1 rfl) ?_
    refine lv_iload_n hx hb dX10_copyRow_17 rfl (lv_at hl 2 rfl) ?_
    refine lv_iload_n hx hb dX10_copyRow_18 rfl (lv_at hl 3 rfl) ?_
    refine lv_imul hx hb dX10_copyRow_19 ?_
    refine lv_topi (fun z_5 ez_5 => ?_)
    have tz_5 : z_5.toInt = 9 * x.toInt := mul_t ez_5 (show -2147483648 ≤ 9 * x.toInt by omega) (show 9 * x.toInt < 2147483648 by omega)
    refine lv_iload hx hb dX10_copyRow_20 (lv_at hl 0 rfl) ?_
    refine lv_iadd hx hb dX10_copyRow_22 ?_
    refine lv_topi (fun z_6 ez_6 => ?_)
    have tz_6 : z_6.toInt = z_5.toInt + x1_4.toInt := add_t ez_6 (show -2147483648 ≤ z_5.toInt + x1_4.toInt by omega) (show z_5.toInt + x1_4.toInt < 2147483648 by omega)
    refine t_iald (n := 45) (i := z_6) rfl (by decide) hx hb hK hT h_ar (hT.len h_ar (by decide)) ⟨by omega, by omega⟩ dX10_copyRow_23 (fun z_7 ez_7 rz_7 => ?_)
    refine t_iast (n := 45) (i := z_4) (x := z_7) rfl (by decide) hx hb hK hT hS h_ar (hT.len h_ar (by decide)) ⟨by omega, by omega⟩ trivial dX10_copyRow_24 (fun H locs G_8 eG_8 hT hS => ?_)
    have hF := hF.wI eG_8 h_ar rfl
    obtain ⟨z_9, ez_9⟩ : ∃ y : Int32, y = x1_4 + 1 := ⟨_, rfl⟩
    have tz_9 : z_9.toInt = x1_4.toInt + 1 := add_t ez_9 (show -2147483648 ≤ x1_4.toInt + 1 by omega) (show x1_4.toInt + 1 < 2147483648 by omega)
    refine lv_iinc (v := z_9) (lv' := [(4, .int z_9), (0, .ref ar), (1, .int 9), (2, .int x), (3, .int y)]) hx hb dX10_copyRow_25 hl (k := 0) rfl (by rw [ez_9]; rfl) (by decide) rfl (fun ls hl => ?_)
    refine lv_goto (tgt := 3) hx hb dX10_copyRow_28 (by decide) ?_
    exact ih1 (z_9, G_8) _ _ _ (by show (9 - z_9.toInt).toNat < (9 - x1_4.toInt).toNat; omega) ⟨(by show 0 ≤ z_9.toInt; omega), (by show z_9.toInt ≤ 9; omega), by show ∀ j : Nat, G_8.1 ar j = if 9 * y.toInt.toNat ≤ j ∧ j < 9 * y.toInt.toNat + z_9.toInt.toNat then G.1 ar (9 * x.toInt.toNat + (j - 9 * y.toInt.toNat)) else G.1 ar j; have q1 : z_4.toNatClampNeg = 9 * y.toInt.toNat + x1_4.toInt.toNat := (show z_4.toInt.toNat = _ by omega); have q2 : z_6.toNatClampNeg = 9 * x.toInt.toNat + x1_4.toInt.toNat := (show z_6.toInt.toNat = _ by omega); have q3 := cp_step (A := 9 * x.toInt.toNat) (B := 9 * y.toInt.toNat) (k := x1_4.toInt.toNat) i1_2 (by omega); rw [← q1, ← q2] at q3; have q4 : z_9.toInt.toNat = x1_4.toInt.toNat + 1 := (by omega); rw [eG_8, wI_up, ez_7, q4]; exact q3, hF, hT, hS, lv_sub hl [0, 1, 2, 3, 4] rfl⟩
set_option maxHeartbeats 4000000 in
set_option maxRecDepth 100000 in
theorem t_X10_copyRow_70 (l : Launch) (D : va_G) (cy : Nat → ClassId) (base : Nat) (τ : Nat → Nat) (G : Gh) (ar : Nat) (h_ar : τ ar = 70) (x : Int32) (r_x : 0 ≤ x.toInt ∧ x.toInt ≤ 4) (y : Int32) (r_y : 0 ≤ y.toInt ∧ y.toInt ≤ 4) : MM l yX10_copyRow cX10_copyRow 5 none 0 0 0 D cy [.ref ar, .int 1, .int x, .int y] (PT D cy base τ G) (QT D cy base τ G [70] (fun v g => v = none ∧ ((∀ j : Nat, g.1 ar j = if 1 * y.toInt.toNat ≤ j ∧ j < 1 * y.toInt.toNat + 1 then G.1 ar (1 * x.toInt.toNat + (j - 1 * y.toInt.toNat)) else G.1 ar j)))) (RA base) := by
  refine MM.of (by decide) (Nat.le_of_ble_eq_true rfl) ?_
  intro p e s m below meth c C hPT ls hl
  obtain ⟨hx, hb, hr, hml, hown, hts, hlocks, hK, hnm⟩ := C
  obtain ⟨hZ, hT⟩ := hPT
  have hS : va_S (RA base) s.heap s.heap [] := va_S.rf
  have hF : Fr τ [70] G G := Fr.rf
  have hl : lv_has ls 5 [(0, .ref ar), (1, .int 1), (2, .int x), (3, .int y)] := hl
  refine lv_iconst (v := 0) hx hb dX10_copyRow_0 (by decide) ?_
  refine lv_istore (lv' := [(4, .int 0), (0, .ref ar), (1, .int 1), (2, .int x), (3, .int y)]) hx hb dX10_copyRow_1 hl (by decide) rfl (fun ls hl => ?_)
  refine W.loop (σ := Int32 × Gh) (fun w1 H locs ls => 0 ≤ w1.1.toInt ∧ w1.1.toInt ≤ 1 ∧ (∀ j : Nat, w1.2.1 ar j = if 1 * y.toInt.toNat ≤ j ∧ j < 1 * y.toInt.toNat + w1.1.toInt.toNat then G.1 ar (1 * x.toInt.toNat + (j - 1 * y.toInt.toNat)) else G.1 ar j) ∧ Fr τ [70] G w1.2 ∧ TY D cy base τ w1.2 H ∧ va_S (RA base) s.heap H locs ∧ lv_has ls 5 [(4, .int w1.1), (0, .ref ar), (1, .int 1), (2, .int x), (3, .int y)]) (fun w1 => (1 - w1.1.toInt).toNat) ?_ ((0 : Int32), G) _ _ _ ⟨(by show 0 ≤ (0 : Int32).toInt; decide), (by show (0 : Int32).toInt ≤ 1; decide), (by show ∀ j : Nat, G.1 ar j = if 1 * y.toInt.toNat ≤ j ∧ j < 1 * y.toInt.toNat + (0 : Int).toNat then G.1 ar (1 * x.toInt.toNat + (j - 1 * y.toInt.toNat)) else G.1 ar j; intro j; rw [if_neg (by omega)]), hF, hT, hS, lv_sub hl [0, 1, 2, 3, 4] rfl⟩
  intro w1 H locs ls hI ih1
  obtain ⟨x1_4, G_1⟩ := w1
  obtain ⟨i1_0, i1_1, i1_2, hF, hT, hS, hl⟩ := hI
  have i1_0 : 0 ≤ x1_4.toInt := i1_0
  have i1_1 : x1_4.toInt ≤ 1 := i1_1
  have i1_2 : (∀ j : Nat, G_1.1 ar j = if 1 * y.toInt.toNat ≤ j ∧ j < 1 * y.toInt.toNat + x1_4.toInt.toNat then G.1 ar (1 * x.toInt.toNat + (j - 1 * y.toInt.toNat)) else G.1 ar j) := i1_2
  have hF : Fr τ [70] G G_1 := hF
  have hT : TY D cy base τ G_1 H := hT
  have hS : va_S (RA base) s.heap H locs := hS
  have hl : lv_has ls 5 [(4, .int x1_4), (0, .ref ar), (1, .int 1), (2, .int x), (3, .int y)] := hl
  refine lv_iload hx hb dX10_copyRow_3 (lv_at hl 0 rfl) ?_
  refine lv_iload_n hx hb dX10_copyRow_5 rfl (lv_at hl 2 rfl) ?_
  refine lv_icmp_ge (tgt := 31) hx hb dX10_copyRow_6 (by decide) (fun c_2 => ?_) (fun c_2 => ?_)
  · skip
    have tc_2 : 1 ≤ x1_4.toInt := (fa_le _ _).mp c_2
    exact ret_v hx hb hr hlocks ⟨⟨hS.1, hS.2.1⟩, G_1, hF, ⟨rfl, (by have q9 := i1_2; rw [show x1_4.toInt.toNat = 1 by omega] at q9; exact q9)⟩, hT⟩ hS.2.2 (Nat.le_of_ble_eq_true rfl) (Nat.le_of_ble_eq_true rfl) dX10_copyRow_31
  · skip
    have tc_2 : ¬ 1 ≤ x1_4.toInt := fun h => c_2 ((fa_le _ _).mpr h)
    refine lv_aload_n hx hb dX10_copyRow_9 rfl (lv_at hl 1 rfl) ?_
    refine lv_iload_n hx hb dX10_copyRow_10 rfl (lv_at hl 2 rfl) ?_
    refine lv_iload_n hx hb dX10_copyRow_11 rfl (lv_at hl 4 rfl) ?_
    refine lv_imul hx hb dX10_copyRow_12 ?_
    refine lv_topi (fun z_3 ez_3 => ?_)
    have tz_3 : z_3.toInt = 1 * y.toInt := mul_t ez_3 (show -2147483648 ≤ 1 * y.toInt by omega) (show 1 * y.toInt < 2147483648 by omega)
    refine lv_iload hx hb dX10_copyRow_13 (lv_at hl 0 rfl) ?_
    refine lv_iadd hx hb dX10_copyRow_15 ?_
    refine lv_topi (fun z_4 ez_4 => ?_)
    have tz_4 : z_4.toInt = z_3.toInt + x1_4.toInt := add_t ez_4 (show -2147483648 ≤ z_3.toInt + x1_4.toInt by omega) (show z_3.toInt + x1_4.toInt < 2147483648 by omega)
    refine lv_aload_n hx hb dX10_copyRow_16 rfl (lv_at hl 1 rfl) ?_
    refine lv_iload_n hx hb dX10_copyRow_17 rfl (lv_at hl 2 rfl) ?_
    refine lv_iload_n hx hb dX10_copyRow_18 rfl (lv_at hl 3 rfl) ?_
    refine lv_imul hx hb dX10_copyRow_19 ?_
    refine lv_topi (fun z_5 ez_5 => ?_)
    have tz_5 : z_5.toInt = 1 * x.toInt := mul_t ez_5 (show -2147483648 ≤ 1 * x.toInt by omega) (show 1 * x.toInt < 2147483648 by omega)
    refine lv_iload hx hb dX10_copyRow_20 (lv_at hl 0 rfl) ?_
    refine lv_iadd hx hb dX10_copyRow_22 ?_
    refine lv_topi (fun z_6 ez_6 => ?_)
    have tz_6 : z_6.toInt = z_5.toInt + x1_4.toInt := add_t ez_6 (show -2147483648 ≤ z_5.toInt + x1_4.toInt by omega) (show z_5.toInt + x1_4.toInt < 2147483648 by omega)
    refine t_iald (n := 5) (i := z_6) rfl (by decide) hx hb hK hT h_ar (hT.len h_ar (by decide)) ⟨by omega, by omega⟩ dX10_copyRow_23 (fun z_7 ez_7 rz_7 => ?_)
    have rz_7 : 0 ≤ z_7.toInt ∧ z_7.toInt ≤ 6 := rz_7
    refine t_iast (n := 5) (i := z_4) (x := z_7) rfl (by decide) hx hb hK hT hS h_ar (hT.len h_ar (by decide)) ⟨by omega, by omega⟩ (show 0 ≤ z_7.toInt ∧ z_7.toInt ≤ 6 from ⟨by omega, by omega⟩) dX10_copyRow_24 (fun H locs G_8 eG_8 hT hS => ?_)
    have hF := hF.wI eG_8 h_ar rfl
    obtain ⟨z_9, ez_9⟩ : ∃ y : Int32, y = x1_4 + 1 := ⟨_, rfl⟩
    have tz_9 : z_9.toInt = x1_4.toInt + 1 := add_t ez_9 (show -2147483648 ≤ x1_4.toInt + 1 by omega) (show x1_4.toInt + 1 < 2147483648 by omega)
    refine lv_iinc (v := z_9) (lv' := [(4, .int z_9), (0, .ref ar), (1, .int 1), (2, .int x), (3, .int y)]) hx hb dX10_copyRow_25 hl (k := 0) rfl (by rw [ez_9]; rfl) (by decide) rfl (fun ls hl => ?_)
    refine lv_goto (tgt := 3) hx hb dX10_copyRow_28 (by decide) ?_
    exact ih1 (z_9, G_8) _ _ _ (by show (1 - z_9.toInt).toNat < (1 - x1_4.toInt).toNat; omega) ⟨(by show 0 ≤ z_9.toInt; omega), (by show z_9.toInt ≤ 1; omega), by show ∀ j : Nat, G_8.1 ar j = if 1 * y.toInt.toNat ≤ j ∧ j < 1 * y.toInt.toNat + z_9.toInt.toNat then G.1 ar (1 * x.toInt.toNat + (j - 1 * y.toInt.toNat)) else G.1 ar j; have q1 : z_4.toNatClampNeg = 1 * y.toInt.toNat + x1_4.toInt.toNat := (show z_4.toInt.toNat = _ by omega); have q2 : z_6.toNatClampNeg = 1 * x.toInt.toNat + x1_4.toInt.toNat := (show z_6.toInt.toNat = _ by omega); have q3 := cp_step (A := 1 * x.toInt.toNat) (B := 1 * y.toInt.toNat) (k := x1_4.toInt.toNat) i1_2 (by omega); rw [← q1, ← q2] at q3; have q4 : z_9.toInt.toNat = x1_4.toInt.toNat + 1 := (by omega); rw [eG_8, wI_up, ez_7, q4]; exact q3, hF, hT, hS, lv_sub hl [0, 1, 2, 3, 4] rfl⟩
set_option maxHeartbeats 4000000 in
set_option maxRecDepth 100000 in
theorem t_X10_copyRow_71 (l : Launch) (D : va_G) (cy : Nat → ClassId) (base : Nat) (τ : Nat → Nat) (G : Gh) (ar : Nat) (h_ar : τ ar = 71) (x : Int32) (r_x : 0 ≤ x.toInt ∧ x.toInt ≤ 4) (y : Int32) (r_y : 0 ≤ y.toInt ∧ y.toInt ≤ 4) : MM l yX10_copyRow cX10_copyRow 5 none 0 0 0 D cy [.ref ar, .int 30, .int x, .int y] (PT D cy base τ G) (QT D cy base τ G [71] (fun v g => v = none ∧ ((∀ j : Nat, g.1 ar j = if 30 * y.toInt.toNat ≤ j ∧ j < 30 * y.toInt.toNat + 30 then G.1 ar (30 * x.toInt.toNat + (j - 30 * y.toInt.toNat)) else G.1 ar j)))) (RA base) := by
  refine MM.of (by decide) (Nat.le_of_ble_eq_true rfl) ?_
  intro p e s m below meth c C hPT ls hl
  obtain ⟨hx, hb, hr, hml, hown, hts, hlocks, hK, hnm⟩ := C
  obtain ⟨hZ, hT⟩ := hPT
  have hS : va_S (RA base) s.heap s.heap [] := va_S.rf
  have hF : Fr τ [71] G G := Fr.rf
  have hl : lv_has ls 5 [(0, .ref ar), (1, .int 30), (2, .int x), (3, .int y)] := hl
  refine lv_iconst (v := 0) hx hb dX10_copyRow_0 (by decide) ?_
  refine lv_istore (lv' := [(4, .int 0), (0, .ref ar), (1, .int 30), (2, .int x), (3, .int y)]) hx hb dX10_copyRow_1 hl (by decide) rfl (fun ls hl => ?_)
  refine W.loop (σ := Int32 × Gh) (fun w1 H locs ls => 0 ≤ w1.1.toInt ∧ w1.1.toInt ≤ 30 ∧ (∀ j : Nat, w1.2.1 ar j = if 30 * y.toInt.toNat ≤ j ∧ j < 30 * y.toInt.toNat + w1.1.toInt.toNat then G.1 ar (30 * x.toInt.toNat + (j - 30 * y.toInt.toNat)) else G.1 ar j) ∧ Fr τ [71] G w1.2 ∧ TY D cy base τ w1.2 H ∧ va_S (RA base) s.heap H locs ∧ lv_has ls 5 [(4, .int w1.1), (0, .ref ar), (1, .int 30), (2, .int x), (3, .int y)]) (fun w1 => (30 - w1.1.toInt).toNat) ?_ ((0 : Int32), G) _ _ _ ⟨(by show 0 ≤ (0 : Int32).toInt; decide), (by show (0 : Int32).toInt ≤ 30; decide), (by show ∀ j : Nat, G.1 ar j = if 30 * y.toInt.toNat ≤ j ∧ j < 30 * y.toInt.toNat + (0 : Int).toNat then G.1 ar (30 * x.toInt.toNat + (j - 30 * y.toInt.toNat)) else G.1 ar j; intro j; rw [if_neg (by omega)]), hF, hT, hS, lv_sub hl [0, 1, 2, 3, 4] rfl⟩
  intro w1 H locs ls hI ih1
  obtain ⟨x1_4, G_1⟩ := w1
  obtain ⟨i1_0, i1_1, i1_2, hF, hT, hS, hl⟩ := hI
  have i1_0 : 0 ≤ x1_4.toInt := i1_0
  have i1_1 : x1_4.toInt ≤ 30 := i1_1
  have i1_2 : (∀ j : Nat, G_1.1 ar j = if 30 * y.toInt.toNat ≤ j ∧ j < 30 * y.toInt.toNat + x1_4.toInt.toNat then G.1 ar (30 * x.toInt.toNat + (j - 30 * y.toInt.toNat)) else G.1 ar j) := i1_2
  have hF : Fr τ [71] G G_1 := hF
  have hT : TY D cy base τ G_1 H := hT
  have hS : va_S (RA base) s.heap H locs := hS
  have hl : lv_has ls 5 [(4, .int x1_4), (0, .ref ar), (1, .int 30), (2, .int x), (3, .int y)] := hl
  refine lv_iload hx hb dX10_copyRow_3 (lv_at hl 0 rfl) ?_
  refine lv_iload_n hx hb dX10_copyRow_5 rfl (lv_at hl 2 rfl) ?_
  refine lv_icmp_ge (tgt := 31) hx hb dX10_copyRow_6 (by decide) (fun c_2 => ?_) (fun c_2 => ?_)
  · skip
    have tc_2 : 30 ≤ x1_4.toInt := (fa_le _ _).mp c_2
    exact ret_v hx hb hr hlocks ⟨⟨hS.1, hS.2.1⟩, G_1, hF, ⟨rfl, (by have q9 := i1_2; rw [show x1_4.toInt.toNat = 30 by omega] at q9; exact q9)⟩, hT⟩ hS.2.2 (Nat.le_of_ble_eq_true rfl) (Nat.le_of_ble_eq_true rfl) dX10_copyRow_31
  · skip
    have tc_2 : ¬ 30 ≤ x1_4.toInt := fun h => c_2 ((fa_le _ _).mpr h)
    refine lv_aload_n hx hb dX10_copyRow_9 rfl (lv_at hl 1 rfl) ?_
    refine lv_iload_n hx hb dX10_copyRow_10 rfl (lv_at hl 2 rfl) ?_
    refine lv_iload_n hx hb dX10_copyRow_11 rfl (lv_at hl 4 rfl) ?_
    refine lv_imul hx hb dX10_copyRow_12 ?_
    refine lv_topi (fun z_3 ez_3 => ?_)
    have tz_3 : z_3.toInt = 30 * y.toInt := mul_t ez_3 (show -2147483648 ≤ 30 * y.toInt by omega) (show 30 * y.toInt < 2147483648 by omega)
    refine lv_iload hx hb dX10_copyRow_13 (lv_at hl 0 rfl) ?_
    refine lv_iadd hx hb dX10_copyRow_15 ?_
    refine lv_topi (fun z_4 ez_4 => ?_)
    have tz_4 : z_4.toInt = z_3.toInt + x1_4.toInt := add_t ez_4 (show -2147483648 ≤ z_3.toInt + x1_4.toInt by omega) (show z_3.toInt + x1_4.toInt < 2147483648 by omega)
    refine lv_aload_n hx hb dX10_copyRow_16 rfl (lv_at hl 1 rfl) ?_
    refine lv_iload_n hx hb dX10_copyRow_17 rfl (lv_at hl 2 rfl) ?_
    refine lv_iload_n hx hb dX10_copyRow_18 rfl (lv_at hl 3 rfl) ?_
    refine lv_imul hx hb dX10_copyRow_19 ?_
    refine lv_topi (fun z_5 ez_5 => ?_)
    have tz_5 : z_5.toInt = 30 * x.toInt := mul_t ez_5 (show -2147483648 ≤ 30 * x.toInt by omega) (show 30 * x.toInt < 2147483648 by omega)
    refine lv_iload hx hb dX10_copyRow_20 (lv_at hl 0 rfl) ?_
    refine lv_iadd hx hb dX10_copyRow_22 ?_
    refine lv_topi (fun z_6 ez_6 => ?_)
    have tz_6 : z_6.toInt = z_5.toInt + x1_4.toInt := add_t ez_6 (show -2147483648 ≤ z_5.toInt + x1_4.toInt by omega) (show z_5.toInt + x1_4.toInt < 2147483648 by omega)
    refine t_iald (n := 150) (i := z_6) rfl (by decide) hx hb hK hT h_ar (hT.len h_ar (by decide)) ⟨by omega, by omega⟩ dX10_copyRow_23 (fun z_7 ez_7 rz_7 => ?_)
    have qz_7 : (z_6.toInt.toNat % 5 = 1 → 0 ≤ z_7.toInt ∧ z_7.toInt ≤ 999) ∧ (z_6.toInt.toNat % 5 = 2 → 0 ≤ z_7.toInt ∧ z_7.toInt ≤ 9) ∧ (z_6.toInt.toNat % 5 = 3 → 0 ≤ z_7.toInt ∧ z_7.toInt ≤ 9) ∧ (z_6.toInt.toNat % 5 = 4 → 0 ≤ z_7.toInt ∧ z_7.toInt ≤ 9) := rz_7
    refine t_iast (n := 150) (i := z_4) (x := z_7) rfl (by decide) hx hb hK hT hS h_ar (hT.len h_ar (by decide)) ⟨by omega, by omega⟩ (show (z_4.toInt.toNat % 5 = 1 → 0 ≤ z_7.toInt ∧ z_7.toInt ≤ 999) ∧ (z_4.toInt.toNat % 5 = 2 → 0 ≤ z_7.toInt ∧ z_7.toInt ≤ 9) ∧ (z_4.toInt.toNat % 5 = 3 → 0 ≤ z_7.toInt ∧ z_7.toInt ≤ 9) ∧ (z_4.toInt.toNat % 5 = 4 → 0 ≤ z_7.toInt ∧ z_7.toInt ≤ 9) from by omega) dX10_copyRow_24 (fun H locs G_8 eG_8 hT hS => ?_)
    have hF := hF.wI eG_8 h_ar rfl
    obtain ⟨z_9, ez_9⟩ : ∃ y : Int32, y = x1_4 + 1 := ⟨_, rfl⟩
    have tz_9 : z_9.toInt = x1_4.toInt + 1 := add_t ez_9 (show -2147483648 ≤ x1_4.toInt + 1 by omega) (show x1_4.toInt + 1 < 2147483648 by omega)
    refine lv_iinc (v := z_9) (lv' := [(4, .int z_9), (0, .ref ar), (1, .int 30), (2, .int x), (3, .int y)]) hx hb dX10_copyRow_25 hl (k := 0) rfl (by rw [ez_9]; rfl) (by decide) rfl (fun ls hl => ?_)
    refine lv_goto (tgt := 3) hx hb dX10_copyRow_28 (by decide) ?_
    exact ih1 (z_9, G_8) _ _ _ (by show (30 - z_9.toInt).toNat < (30 - x1_4.toInt).toNat; omega) ⟨(by show 0 ≤ z_9.toInt; omega), (by show z_9.toInt ≤ 30; omega), by show ∀ j : Nat, G_8.1 ar j = if 30 * y.toInt.toNat ≤ j ∧ j < 30 * y.toInt.toNat + z_9.toInt.toNat then G.1 ar (30 * x.toInt.toNat + (j - 30 * y.toInt.toNat)) else G.1 ar j; have q1 : z_4.toNatClampNeg = 30 * y.toInt.toNat + x1_4.toInt.toNat := (show z_4.toInt.toNat = _ by omega); have q2 : z_6.toNatClampNeg = 30 * x.toInt.toNat + x1_4.toInt.toNat := (show z_6.toInt.toNat = _ by omega); have q3 := cp_step (A := 30 * x.toInt.toNat) (B := 30 * y.toInt.toNat) (k := x1_4.toInt.toNat) i1_2 (by omega); rw [← q1, ← q2] at q3; have q4 : z_9.toInt.toNat = x1_4.toInt.toNat + 1 := (by omega); rw [eG_8, wI_up, ez_7, q4]; exact q3, hF, hT, hS, lv_sub hl [0, 1, 2, 3, 4] rfl⟩
set_option maxHeartbeats 4000000 in
set_option maxRecDepth 100000 in
theorem t_X10_copyRow_72 (l : Launch) (D : va_G) (cy : Nat → ClassId) (base : Nat) (τ : Nat → Nat) (G : Gh) (ar : Nat) (h_ar : τ ar = 72) (x : Int32) (r_x : 0 ≤ x.toInt ∧ x.toInt ≤ 4) (y : Int32) (r_y : 0 ≤ y.toInt ∧ y.toInt ≤ 4) : MM l yX10_copyRow cX10_copyRow 5 none 0 0 0 D cy [.ref ar, .int 1, .int x, .int y] (PT D cy base τ G) (QT D cy base τ G [72] (fun v g => v = none ∧ ((∀ j : Nat, g.1 ar j = if 1 * y.toInt.toNat ≤ j ∧ j < 1 * y.toInt.toNat + 1 then G.1 ar (1 * x.toInt.toNat + (j - 1 * y.toInt.toNat)) else G.1 ar j)))) (RA base) := by
  refine MM.of (by decide) (Nat.le_of_ble_eq_true rfl) ?_
  intro p e s m below meth c C hPT ls hl
  obtain ⟨hx, hb, hr, hml, hown, hts, hlocks, hK, hnm⟩ := C
  obtain ⟨hZ, hT⟩ := hPT
  have hS : va_S (RA base) s.heap s.heap [] := va_S.rf
  have hF : Fr τ [72] G G := Fr.rf
  have hl : lv_has ls 5 [(0, .ref ar), (1, .int 1), (2, .int x), (3, .int y)] := hl
  refine lv_iconst (v := 0) hx hb dX10_copyRow_0 (by decide) ?_
  refine lv_istore (lv' := [(4, .int 0), (0, .ref ar), (1, .int 1), (2, .int x), (3, .int y)]) hx hb dX10_copyRow_1 hl (by decide) rfl (fun ls hl => ?_)
  refine W.loop (σ := Int32 × Gh) (fun w1 H locs ls => 0 ≤ w1.1.toInt ∧ w1.1.toInt ≤ 1 ∧ (∀ j : Nat, w1.2.1 ar j = if 1 * y.toInt.toNat ≤ j ∧ j < 1 * y.toInt.toNat + w1.1.toInt.toNat then G.1 ar (1 * x.toInt.toNat + (j - 1 * y.toInt.toNat)) else G.1 ar j) ∧ Fr τ [72] G w1.2 ∧ TY D cy base τ w1.2 H ∧ va_S (RA base) s.heap H locs ∧ lv_has ls 5 [(4, .int w1.1), (0, .ref ar), (1, .int 1), (2, .int x), (3, .int y)]) (fun w1 => (1 - w1.1.toInt).toNat) ?_ ((0 : Int32), G) _ _ _ ⟨(by show 0 ≤ (0 : Int32).toInt; decide), (by show (0 : Int32).toInt ≤ 1; decide), (by show ∀ j : Nat, G.1 ar j = if 1 * y.toInt.toNat ≤ j ∧ j < 1 * y.toInt.toNat + (0 : Int).toNat then G.1 ar (1 * x.toInt.toNat + (j - 1 * y.toInt.toNat)) else G.1 ar j; intro j; rw [if_neg (by omega)]), hF, hT, hS, lv_sub hl [0, 1, 2, 3, 4] rfl⟩
  intro w1 H locs ls hI ih1
  obtain ⟨x1_4, G_1⟩ := w1
  obtain ⟨i1_0, i1_1, i1_2, hF, hT, hS, hl⟩ := hI
  have i1_0 : 0 ≤ x1_4.toInt := i1_0
  have i1_1 : x1_4.toInt ≤ 1 := i1_1
  have i1_2 : (∀ j : Nat, G_1.1 ar j = if 1 * y.toInt.toNat ≤ j ∧ j < 1 * y.toInt.toNat + x1_4.toInt.toNat then G.1 ar (1 * x.toInt.toNat + (j - 1 * y.toInt.toNat)) else G.1 ar j) := i1_2
  have hF : Fr τ [72] G G_1 := hF
  have hT : TY D cy base τ G_1 H := hT
  have hS : va_S (RA base) s.heap H locs := hS
  have hl : lv_has ls 5 [(4, .int x1_4), (0, .ref ar), (1, .int 1), (2, .int x), (3, .int y)] := hl
  refine lv_iload hx hb dX10_copyRow_3 (lv_at hl 0 rfl) ?_
  refine lv_iload_n hx hb dX10_copyRow_5 rfl (lv_at hl 2 rfl) ?_
  refine lv_icmp_ge (tgt := 31) hx hb dX10_copyRow_6 (by decide) (fun c_2 => ?_) (fun c_2 => ?_)
  · skip
    have tc_2 : 1 ≤ x1_4.toInt := (fa_le _ _).mp c_2
    exact ret_v hx hb hr hlocks ⟨⟨hS.1, hS.2.1⟩, G_1, hF, ⟨rfl, (by have q9 := i1_2; rw [show x1_4.toInt.toNat = 1 by omega] at q9; exact q9)⟩, hT⟩ hS.2.2 (Nat.le_of_ble_eq_true rfl) (Nat.le_of_ble_eq_true rfl) dX10_copyRow_31
  · skip
    have tc_2 : ¬ 1 ≤ x1_4.toInt := fun h => c_2 ((fa_le _ _).mpr h)
    refine lv_aload_n hx hb dX10_copyRow_9 rfl (lv_at hl 1 rfl) ?_
    refine lv_iload_n hx hb dX10_copyRow_10 rfl (lv_at hl 2 rfl) ?_
    refine lv_iload_n hx hb dX10_copyRow_11 rfl (lv_at hl 4 rfl) ?_
    refine lv_imul hx hb dX10_copyRow_12 ?_
    refine lv_topi (fun z_3 ez_3 => ?_)
    have tz_3 : z_3.toInt = 1 * y.toInt := mul_t ez_3 (show -2147483648 ≤ 1 * y.toInt by omega) (show 1 * y.toInt < 2147483648 by omega)
    refine lv_iload hx hb dX10_copyRow_13 (lv_at hl 0 rfl) ?_
    refine lv_iadd hx hb dX10_copyRow_15 ?_
    refine lv_topi (fun z_4 ez_4 => ?_)
    have tz_4 : z_4.toInt = z_3.toInt + x1_4.toInt := add_t ez_4 (show -2147483648 ≤ z_3.toInt + x1_4.toInt by omega) (show z_3.toInt + x1_4.toInt < 2147483648 by omega)
    refine lv_aload_n hx hb dX10_copyRow_16 rfl (lv_at hl 1 rfl) ?_
    refine lv_iload_n hx hb dX10_copyRow_17 rfl (lv_at hl 2 rfl) ?_
    refine lv_iload_n hx hb dX10_copyRow_18 rfl (lv_at hl 3 rfl) ?_
    refine lv_imul hx hb dX10_copyRow_19 ?_
    refine lv_topi (fun z_5 ez_5 => ?_)
    have tz_5 : z_5.toInt = 1 * x.toInt := mul_t ez_5 (show -2147483648 ≤ 1 * x.toInt by omega) (show 1 * x.toInt < 2147483648 by omega)
    refine lv_iload hx hb dX10_copyRow_20 (lv_at hl 0 rfl) ?_
    refine lv_iadd hx hb dX10_copyRow_22 ?_
    refine lv_topi (fun z_6 ez_6 => ?_)
    have tz_6 : z_6.toInt = z_5.toInt + x1_4.toInt := add_t ez_6 (show -2147483648 ≤ z_5.toInt + x1_4.toInt by omega) (show z_5.toInt + x1_4.toInt < 2147483648 by omega)
    refine t_iald (n := 5) (i := z_6) rfl (by decide) hx hb hK hT h_ar (hT.len h_ar (by decide)) ⟨by omega, by omega⟩ dX10_copyRow_23 (fun z_7 ez_7 rz_7 => ?_)
    have rz_7 : 0 ≤ z_7.toInt ∧ z_7.toInt ≤ 8 := rz_7
    refine t_iast (n := 5) (i := z_4) (x := z_7) rfl (by decide) hx hb hK hT hS h_ar (hT.len h_ar (by decide)) ⟨by omega, by omega⟩ (show 0 ≤ z_7.toInt ∧ z_7.toInt ≤ 8 from ⟨by omega, by omega⟩) dX10_copyRow_24 (fun H locs G_8 eG_8 hT hS => ?_)
    have hF := hF.wI eG_8 h_ar rfl
    obtain ⟨z_9, ez_9⟩ : ∃ y : Int32, y = x1_4 + 1 := ⟨_, rfl⟩
    have tz_9 : z_9.toInt = x1_4.toInt + 1 := add_t ez_9 (show -2147483648 ≤ x1_4.toInt + 1 by omega) (show x1_4.toInt + 1 < 2147483648 by omega)
    refine lv_iinc (v := z_9) (lv' := [(4, .int z_9), (0, .ref ar), (1, .int 1), (2, .int x), (3, .int y)]) hx hb dX10_copyRow_25 hl (k := 0) rfl (by rw [ez_9]; rfl) (by decide) rfl (fun ls hl => ?_)
    refine lv_goto (tgt := 3) hx hb dX10_copyRow_28 (by decide) ?_
    exact ih1 (z_9, G_8) _ _ _ (by show (1 - z_9.toInt).toNat < (1 - x1_4.toInt).toNat; omega) ⟨(by show 0 ≤ z_9.toInt; omega), (by show z_9.toInt ≤ 1; omega), by show ∀ j : Nat, G_8.1 ar j = if 1 * y.toInt.toNat ≤ j ∧ j < 1 * y.toInt.toNat + z_9.toInt.toNat then G.1 ar (1 * x.toInt.toNat + (j - 1 * y.toInt.toNat)) else G.1 ar j; have q1 : z_4.toNatClampNeg = 1 * y.toInt.toNat + x1_4.toInt.toNat := (show z_4.toInt.toNat = _ by omega); have q2 : z_6.toNatClampNeg = 1 * x.toInt.toNat + x1_4.toInt.toNat := (show z_6.toInt.toNat = _ by omega); have q3 := cp_step (A := 1 * x.toInt.toNat) (B := 1 * y.toInt.toNat) (k := x1_4.toInt.toNat) i1_2 (by omega); rw [← q1, ← q2] at q3; have q4 : z_9.toInt.toNat = x1_4.toInt.toNat + 1 := (by omega); rw [eG_8, wI_up, ez_7, q4]; exact q3, hF, hT, hS, lv_sub hl [0, 1, 2, 3, 4] rfl⟩
set_option maxHeartbeats 4000000 in
set_option maxRecDepth 100000 in
theorem t_X10_copyRow_73 (l : Launch) (D : va_G) (cy : Nat → ClassId) (base : Nat) (τ : Nat → Nat) (G : Gh) (ar : Nat) (h_ar : τ ar = 73) (x : Int32) (r_x : 0 ≤ x.toInt ∧ x.toInt ≤ 4) (y : Int32) (r_y : 0 ≤ y.toInt ∧ y.toInt ≤ 4) : MM l yX10_copyRow cX10_copyRow 5 none 0 0 0 D cy [.ref ar, .int 24, .int x, .int y] (PT D cy base τ G) (QT D cy base τ G [73] (fun v g => v = none ∧ ((∀ j : Nat, g.1 ar j = if 24 * y.toInt.toNat ≤ j ∧ j < 24 * y.toInt.toNat + 24 then G.1 ar (24 * x.toInt.toNat + (j - 24 * y.toInt.toNat)) else G.1 ar j)))) (RA base) := by
  refine MM.of (by decide) (Nat.le_of_ble_eq_true rfl) ?_
  intro p e s m below meth c C hPT ls hl
  obtain ⟨hx, hb, hr, hml, hown, hts, hlocks, hK, hnm⟩ := C
  obtain ⟨hZ, hT⟩ := hPT
  have hS : va_S (RA base) s.heap s.heap [] := va_S.rf
  have hF : Fr τ [73] G G := Fr.rf
  have hl : lv_has ls 5 [(0, .ref ar), (1, .int 24), (2, .int x), (3, .int y)] := hl
  refine lv_iconst (v := 0) hx hb dX10_copyRow_0 (by decide) ?_
  refine lv_istore (lv' := [(4, .int 0), (0, .ref ar), (1, .int 24), (2, .int x), (3, .int y)]) hx hb dX10_copyRow_1 hl (by decide) rfl (fun ls hl => ?_)
  refine W.loop (σ := Int32 × Gh) (fun w1 H locs ls => 0 ≤ w1.1.toInt ∧ w1.1.toInt ≤ 24 ∧ (∀ j : Nat, w1.2.1 ar j = if 24 * y.toInt.toNat ≤ j ∧ j < 24 * y.toInt.toNat + w1.1.toInt.toNat then G.1 ar (24 * x.toInt.toNat + (j - 24 * y.toInt.toNat)) else G.1 ar j) ∧ Fr τ [73] G w1.2 ∧ TY D cy base τ w1.2 H ∧ va_S (RA base) s.heap H locs ∧ lv_has ls 5 [(4, .int w1.1), (0, .ref ar), (1, .int 24), (2, .int x), (3, .int y)]) (fun w1 => (24 - w1.1.toInt).toNat) ?_ ((0 : Int32), G) _ _ _ ⟨(by show 0 ≤ (0 : Int32).toInt; decide), (by show (0 : Int32).toInt ≤ 24; decide), (by show ∀ j : Nat, G.1 ar j = if 24 * y.toInt.toNat ≤ j ∧ j < 24 * y.toInt.toNat + (0 : Int).toNat then G.1 ar (24 * x.toInt.toNat + (j - 24 * y.toInt.toNat)) else G.1 ar j; intro j; rw [if_neg (by omega)]), hF, hT, hS, lv_sub hl [0, 1, 2, 3, 4] rfl⟩
  intro w1 H locs ls hI ih1
  obtain ⟨x1_4, G_1⟩ := w1
  obtain ⟨i1_0, i1_1, i1_2, hF, hT, hS, hl⟩ := hI
  have i1_0 : 0 ≤ x1_4.toInt := i1_0
  have i1_1 : x1_4.toInt ≤ 24 := i1_1
  have i1_2 : (∀ j : Nat, G_1.1 ar j = if 24 * y.toInt.toNat ≤ j ∧ j < 24 * y.toInt.toNat + x1_4.toInt.toNat then G.1 ar (24 * x.toInt.toNat + (j - 24 * y.toInt.toNat)) else G.1 ar j) := i1_2
  have hF : Fr τ [73] G G_1 := hF
  have hT : TY D cy base τ G_1 H := hT
  have hS : va_S (RA base) s.heap H locs := hS
  have hl : lv_has ls 5 [(4, .int x1_4), (0, .ref ar), (1, .int 24), (2, .int x), (3, .int y)] := hl
  refine lv_iload hx hb dX10_copyRow_3 (lv_at hl 0 rfl) ?_
  refine lv_iload_n hx hb dX10_copyRow_5 rfl (lv_at hl 2 rfl) ?_
  refine lv_icmp_ge (tgt := 31) hx hb dX10_copyRow_6 (by decide) (fun c_2 => ?_) (fun c_2 => ?_)
  · skip
    have tc_2 : 24 ≤ x1_4.toInt := (fa_le _ _).mp c_2
    exact ret_v hx hb hr hlocks ⟨⟨hS.1, hS.2.1⟩, G_1, hF, ⟨rfl, (by have q9 := i1_2; rw [show x1_4.toInt.toNat = 24 by omega] at q9; exact q9)⟩, hT⟩ hS.2.2 (Nat.le_of_ble_eq_true rfl) (Nat.le_of_ble_eq_true rfl) dX10_copyRow_31
  · skip
    have tc_2 : ¬ 24 ≤ x1_4.toInt := fun h => c_2 ((fa_le _ _).mpr h)
    refine lv_aload_n hx hb dX10_copyRow_9 rfl (lv_at hl 1 rfl) ?_
    refine lv_iload_n hx hb dX10_copyRow_10 rfl (lv_at hl 2 rfl) ?_
    refine lv_iload_n hx hb dX10_copyRow_11 rfl (lv_at hl 4 rfl) ?_
    refine lv_imul hx hb dX10_copyRow_12 ?_
    refine lv_topi (fun z_3 ez_3 => ?_)
    have tz_3 : z_3.toInt = 24 * y.toInt := mul_t ez_3 (show -2147483648 ≤ 24 * y.toInt by omega) (show 24 * y.toInt < 2147483648 by omega)
    refine lv_iload hx hb dX10_copyRow_13 (lv_at hl 0 rfl) ?_
    refine lv_iadd hx hb dX10_copyRow_15 ?_
    refine lv_topi (fun z_4 ez_4 => ?_)
    have tz_4 : z_4.toInt = z_3.toInt + x1_4.toInt := add_t ez_4 (show -2147483648 ≤ z_3.toInt + x1_4.toInt by omega) (show z_3.toInt + x1_4.toInt < 2147483648 by omega)
    refine lv_aload_n hx hb dX10_copyRow_16 rfl (lv_at hl 1 rfl) ?_
    refine lv_iload_n hx hb dX10_copyRow_17 rfl (lv_at hl 2 rfl) ?_
    refine lv_iload_n hx hb dX10_copyRow_18 rfl (lv_at hl 3 rfl) ?_
    refine lv_imul hx hb dX10_copyRow_19 ?_
    refine lv_topi (fun z_5 ez_5 => ?_)
    have tz_5 : z_5.toInt = 24 * x.toInt := mul_t ez_5 (show -2147483648 ≤ 24 * x.toInt by omega) (show 24 * x.toInt < 2147483648 by omega)
    refine lv_iload hx hb dX10_copyRow_20 (lv_at hl 0 rfl) ?_
    refine lv_iadd hx hb dX10_copyRow_22 ?_
    refine lv_topi (fun z_6 ez_6 => ?_)
    have tz_6 : z_6.toInt = z_5.toInt + x1_4.toInt := add_t ez_6 (show -2147483648 ≤ z_5.toInt + x1_4.toInt by omega) (show z_5.toInt + x1_4.toInt < 2147483648 by omega)
    refine t_iald (n := 120) (i := z_6) rfl (by decide) hx hb hK hT h_ar (hT.len h_ar (by decide)) ⟨by omega, by omega⟩ dX10_copyRow_23 (fun z_7 ez_7 rz_7 => ?_)
    refine t_iast (n := 120) (i := z_4) (x := z_7) rfl (by decide) hx hb hK hT hS h_ar (hT.len h_ar (by decide)) ⟨by omega, by omega⟩ trivial dX10_copyRow_24 (fun H locs G_8 eG_8 hT hS => ?_)
    have hF := hF.wI eG_8 h_ar rfl
    obtain ⟨z_9, ez_9⟩ : ∃ y : Int32, y = x1_4 + 1 := ⟨_, rfl⟩
    have tz_9 : z_9.toInt = x1_4.toInt + 1 := add_t ez_9 (show -2147483648 ≤ x1_4.toInt + 1 by omega) (show x1_4.toInt + 1 < 2147483648 by omega)
    refine lv_iinc (v := z_9) (lv' := [(4, .int z_9), (0, .ref ar), (1, .int 24), (2, .int x), (3, .int y)]) hx hb dX10_copyRow_25 hl (k := 0) rfl (by rw [ez_9]; rfl) (by decide) rfl (fun ls hl => ?_)
    refine lv_goto (tgt := 3) hx hb dX10_copyRow_28 (by decide) ?_
    exact ih1 (z_9, G_8) _ _ _ (by show (24 - z_9.toInt).toNat < (24 - x1_4.toInt).toNat; omega) ⟨(by show 0 ≤ z_9.toInt; omega), (by show z_9.toInt ≤ 24; omega), by show ∀ j : Nat, G_8.1 ar j = if 24 * y.toInt.toNat ≤ j ∧ j < 24 * y.toInt.toNat + z_9.toInt.toNat then G.1 ar (24 * x.toInt.toNat + (j - 24 * y.toInt.toNat)) else G.1 ar j; have q1 : z_4.toNatClampNeg = 24 * y.toInt.toNat + x1_4.toInt.toNat := (show z_4.toInt.toNat = _ by omega); have q2 : z_6.toNatClampNeg = 24 * x.toInt.toNat + x1_4.toInt.toNat := (show z_6.toInt.toNat = _ by omega); have q3 := cp_step (A := 24 * x.toInt.toNat) (B := 24 * y.toInt.toNat) (k := x1_4.toInt.toNat) i1_2 (by omega); rw [← q1, ← q2] at q3; have q4 : z_9.toInt.toNat = x1_4.toInt.toNat + 1 := (by omega); rw [eG_8, wI_up, ez_7, q4]; exact q3, hF, hT, hS, lv_sub hl [0, 1, 2, 3, 4] rfl⟩
set_option maxHeartbeats 4000000 in
set_option maxRecDepth 100000 in
theorem t_X10_copyRow_74 (l : Launch) (D : va_G) (cy : Nat → ClassId) (base : Nat) (τ : Nat → Nat) (G : Gh) (ar : Nat) (h_ar : τ ar = 74) (x : Int32) (r_x : 0 ≤ x.toInt ∧ x.toInt ≤ 4) (y : Int32) (r_y : 0 ≤ y.toInt ∧ y.toInt ≤ 4) : MM l yX10_copyRow cX10_copyRow 5 none 0 0 0 D cy [.ref ar, .int 6, .int x, .int y] (PT D cy base τ G) (QT D cy base τ G [74] (fun v g => v = none ∧ ((∀ j : Nat, g.1 ar j = if 6 * y.toInt.toNat ≤ j ∧ j < 6 * y.toInt.toNat + 6 then G.1 ar (6 * x.toInt.toNat + (j - 6 * y.toInt.toNat)) else G.1 ar j)))) (RA base) := by
  refine MM.of (by decide) (Nat.le_of_ble_eq_true rfl) ?_
  intro p e s m below meth c C hPT ls hl
  obtain ⟨hx, hb, hr, hml, hown, hts, hlocks, hK, hnm⟩ := C
  obtain ⟨hZ, hT⟩ := hPT
  have hS : va_S (RA base) s.heap s.heap [] := va_S.rf
  have hF : Fr τ [74] G G := Fr.rf
  have hl : lv_has ls 5 [(0, .ref ar), (1, .int 6), (2, .int x), (3, .int y)] := hl
  refine lv_iconst (v := 0) hx hb dX10_copyRow_0 (by decide) ?_
  refine lv_istore (lv' := [(4, .int 0), (0, .ref ar), (1, .int 6), (2, .int x), (3, .int y)]) hx hb dX10_copyRow_1 hl (by decide) rfl (fun ls hl => ?_)
  refine W.loop (σ := Int32 × Gh) (fun w1 H locs ls => 0 ≤ w1.1.toInt ∧ w1.1.toInt ≤ 6 ∧ (∀ j : Nat, w1.2.1 ar j = if 6 * y.toInt.toNat ≤ j ∧ j < 6 * y.toInt.toNat + w1.1.toInt.toNat then G.1 ar (6 * x.toInt.toNat + (j - 6 * y.toInt.toNat)) else G.1 ar j) ∧ Fr τ [74] G w1.2 ∧ TY D cy base τ w1.2 H ∧ va_S (RA base) s.heap H locs ∧ lv_has ls 5 [(4, .int w1.1), (0, .ref ar), (1, .int 6), (2, .int x), (3, .int y)]) (fun w1 => (6 - w1.1.toInt).toNat) ?_ ((0 : Int32), G) _ _ _ ⟨(by show 0 ≤ (0 : Int32).toInt; decide), (by show (0 : Int32).toInt ≤ 6; decide), (by show ∀ j : Nat, G.1 ar j = if 6 * y.toInt.toNat ≤ j ∧ j < 6 * y.toInt.toNat + (0 : Int).toNat then G.1 ar (6 * x.toInt.toNat + (j - 6 * y.toInt.toNat)) else G.1 ar j; intro j; rw [if_neg (by omega)]), hF, hT, hS, lv_sub hl [0, 1, 2, 3, 4] rfl⟩
  intro w1 H locs ls hI ih1
  obtain ⟨x1_4, G_1⟩ := w1
  obtain ⟨i1_0, i1_1, i1_2, hF, hT, hS, hl⟩ := hI
  have i1_0 : 0 ≤ x1_4.toInt := i1_0
  have i1_1 : x1_4.toInt ≤ 6 := i1_1
  have i1_2 : (∀ j : Nat, G_1.1 ar j = if 6 * y.toInt.toNat ≤ j ∧ j < 6 * y.toInt.toNat + x1_4.toInt.toNat then G.1 ar (6 * x.toInt.toNat + (j - 6 * y.toInt.toNat)) else G.1 ar j) := i1_2
  have hF : Fr τ [74] G G_1 := hF
  have hT : TY D cy base τ G_1 H := hT
  have hS : va_S (RA base) s.heap H locs := hS
  have hl : lv_has ls 5 [(4, .int x1_4), (0, .ref ar), (1, .int 6), (2, .int x), (3, .int y)] := hl
  refine lv_iload hx hb dX10_copyRow_3 (lv_at hl 0 rfl) ?_
  refine lv_iload_n hx hb dX10_copyRow_5 rfl (lv_at hl 2 rfl) ?_
  refine lv_icmp_ge (tgt := 31) hx hb dX10_copyRow_6 (by decide) (fun c_2 => ?_) (fun c_2 => ?_)
  · skip
    have tc_2 : 6 ≤ x1_4.toInt := (fa_le _ _).mp c_2
    exact ret_v hx hb hr hlocks ⟨⟨hS.1, hS.2.1⟩, G_1, hF, ⟨rfl, (by have q9 := i1_2; rw [show x1_4.toInt.toNat = 6 by omega] at q9; exact q9)⟩, hT⟩ hS.2.2 (Nat.le_of_ble_eq_true rfl) (Nat.le_of_ble_eq_true rfl) dX10_copyRow_31
  · skip
    have tc_2 : ¬ 6 ≤ x1_4.toInt := fun h => c_2 ((fa_le _ _).mpr h)
    refine lv_aload_n hx hb dX10_copyRow_9 rfl (lv_at hl 1 rfl) ?_
    refine lv_iload_n hx hb dX10_copyRow_10 rfl (lv_at hl 2 rfl) ?_
    refine lv_iload_n hx hb dX10_copyRow_11 rfl (lv_at hl 4 rfl) ?_
    refine lv_imul hx hb dX10_copyRow_12 ?_
    refine lv_topi (fun z_3 ez_3 => ?_)
    have tz_3 : z_3.toInt = 6 * y.toInt := mul_t ez_3 (show -2147483648 ≤ 6 * y.toInt by omega) (show 6 * y.toInt < 2147483648 by omega)
    refine lv_iload hx hb dX10_copyRow_13 (lv_at hl 0 rfl) ?_
    refine lv_iadd hx hb dX10_copyRow_15 ?_
    refine lv_topi (fun z_4 ez_4 => ?_)
    have tz_4 : z_4.toInt = z_3.toInt + x1_4.toInt := add_t ez_4 (show -2147483648 ≤ z_3.toInt + x1_4.toInt by omega) (show z_3.toInt + x1_4.toInt < 2147483648 by omega)
    refine lv_aload_n hx hb dX10_copyRow_16 rfl (lv_at hl 1 rfl) ?_
    refine lv_iload_n hx hb dX10_copyRow_17 rfl (lv_at hl 2 rfl) ?_
    refine lv_iload_n hx hb dX10_copyRow_18 rfl (lv_at hl 3 rfl) ?_
    refine lv_imul hx hb dX10_copyRow_19 ?_
    refine lv_topi (fun z_5 ez_5 => ?_)
    have tz_5 : z_5.toInt = 6 * x.toInt := mul_t ez_5 (show -2147483648 ≤ 6 * x.toInt by omega) (show 6 * x.toInt < 2147483648 by omega)
    refine lv_iload hx hb dX10_copyRow_20 (lv_at hl 0 rfl) ?_
    refine lv_iadd hx hb dX10_copyRow_22 ?_
    refine lv_topi (fun z_6 ez_6 => ?_)
    have tz_6 : z_6.toInt = z_5.toInt + x1_4.toInt := add_t ez_6 (show -2147483648 ≤ z_5.toInt + x1_4.toInt by omega) (show z_5.toInt + x1_4.toInt < 2147483648 by omega)
    refine t_iald (n := 30) (i := z_6) rfl (by decide) hx hb hK hT h_ar (hT.len h_ar (by decide)) ⟨by omega, by omega⟩ dX10_copyRow_23 (fun z_7 ez_7 rz_7 => ?_)
    have qz_7 : (z_6.toInt.toNat % 6 = 0 → 0 ≤ z_7.toInt ∧ z_7.toInt ≤ 9) ∧ (z_6.toInt.toNat % 6 = 1 → 0 ≤ z_7.toInt ∧ z_7.toInt ≤ 50) ∧ (z_6.toInt.toNat % 6 = 3 → 0 ≤ z_7.toInt ∧ z_7.toInt ≤ 50) := rz_7
    refine t_iast (n := 30) (i := z_4) (x := z_7) rfl (by decide) hx hb hK hT hS h_ar (hT.len h_ar (by decide)) ⟨by omega, by omega⟩ (show (z_4.toInt.toNat % 6 = 0 → 0 ≤ z_7.toInt ∧ z_7.toInt ≤ 9) ∧ (z_4.toInt.toNat % 6 = 1 → 0 ≤ z_7.toInt ∧ z_7.toInt ≤ 50) ∧ (z_4.toInt.toNat % 6 = 3 → 0 ≤ z_7.toInt ∧ z_7.toInt ≤ 50) from by omega) dX10_copyRow_24 (fun H locs G_8 eG_8 hT hS => ?_)
    have hF := hF.wI eG_8 h_ar rfl
    obtain ⟨z_9, ez_9⟩ : ∃ y : Int32, y = x1_4 + 1 := ⟨_, rfl⟩
    have tz_9 : z_9.toInt = x1_4.toInt + 1 := add_t ez_9 (show -2147483648 ≤ x1_4.toInt + 1 by omega) (show x1_4.toInt + 1 < 2147483648 by omega)
    refine lv_iinc (v := z_9) (lv' := [(4, .int z_9), (0, .ref ar), (1, .int 6), (2, .int x), (3, .int y)]) hx hb dX10_copyRow_25 hl (k := 0) rfl (by rw [ez_9]; rfl) (by decide) rfl (fun ls hl => ?_)
    refine lv_goto (tgt := 3) hx hb dX10_copyRow_28 (by decide) ?_
    exact ih1 (z_9, G_8) _ _ _ (by show (6 - z_9.toInt).toNat < (6 - x1_4.toInt).toNat; omega) ⟨(by show 0 ≤ z_9.toInt; omega), (by show z_9.toInt ≤ 6; omega), by show ∀ j : Nat, G_8.1 ar j = if 6 * y.toInt.toNat ≤ j ∧ j < 6 * y.toInt.toNat + z_9.toInt.toNat then G.1 ar (6 * x.toInt.toNat + (j - 6 * y.toInt.toNat)) else G.1 ar j; have q1 : z_4.toNatClampNeg = 6 * y.toInt.toNat + x1_4.toInt.toNat := (show z_4.toInt.toNat = _ by omega); have q2 : z_6.toNatClampNeg = 6 * x.toInt.toNat + x1_4.toInt.toNat := (show z_6.toInt.toNat = _ by omega); have q3 := cp_step (A := 6 * x.toInt.toNat) (B := 6 * y.toInt.toNat) (k := x1_4.toInt.toNat) i1_2 (by omega); rw [← q1, ← q2] at q3; have q4 : z_9.toInt.toNat = x1_4.toInt.toNat + 1 := (by omega); rw [eG_8, wI_up, ez_7, q4]; exact q3, hF, hT, hS, lv_sub hl [0, 1, 2, 3, 4] rfl⟩
set_option maxHeartbeats 4000000 in
set_option maxRecDepth 100000 in
theorem t_X10_copyRow_76 (l : Launch) (D : va_G) (cy : Nat → ClassId) (base : Nat) (τ : Nat → Nat) (G : Gh) (ar : Nat) (h_ar : τ ar = 76) (x : Int32) (r_x : 0 ≤ x.toInt ∧ x.toInt ≤ 4) (y : Int32) (r_y : 0 ≤ y.toInt ∧ y.toInt ≤ 4) : MM l yX10_copyRow cX10_copyRow 5 none 0 0 0 D cy [.ref ar, .int 1, .int x, .int y] (PT D cy base τ G) (QT D cy base τ G [76] (fun v g => v = none ∧ ((∀ j : Nat, g.1 ar j = if 1 * y.toInt.toNat ≤ j ∧ j < 1 * y.toInt.toNat + 1 then G.1 ar (1 * x.toInt.toNat + (j - 1 * y.toInt.toNat)) else G.1 ar j)))) (RA base) := by
  refine MM.of (by decide) (Nat.le_of_ble_eq_true rfl) ?_
  intro p e s m below meth c C hPT ls hl
  obtain ⟨hx, hb, hr, hml, hown, hts, hlocks, hK, hnm⟩ := C
  obtain ⟨hZ, hT⟩ := hPT
  have hS : va_S (RA base) s.heap s.heap [] := va_S.rf
  have hF : Fr τ [76] G G := Fr.rf
  have hl : lv_has ls 5 [(0, .ref ar), (1, .int 1), (2, .int x), (3, .int y)] := hl
  refine lv_iconst (v := 0) hx hb dX10_copyRow_0 (by decide) ?_
  refine lv_istore (lv' := [(4, .int 0), (0, .ref ar), (1, .int 1), (2, .int x), (3, .int y)]) hx hb dX10_copyRow_1 hl (by decide) rfl (fun ls hl => ?_)
  refine W.loop (σ := Int32 × Gh) (fun w1 H locs ls => 0 ≤ w1.1.toInt ∧ w1.1.toInt ≤ 1 ∧ (∀ j : Nat, w1.2.1 ar j = if 1 * y.toInt.toNat ≤ j ∧ j < 1 * y.toInt.toNat + w1.1.toInt.toNat then G.1 ar (1 * x.toInt.toNat + (j - 1 * y.toInt.toNat)) else G.1 ar j) ∧ Fr τ [76] G w1.2 ∧ TY D cy base τ w1.2 H ∧ va_S (RA base) s.heap H locs ∧ lv_has ls 5 [(4, .int w1.1), (0, .ref ar), (1, .int 1), (2, .int x), (3, .int y)]) (fun w1 => (1 - w1.1.toInt).toNat) ?_ ((0 : Int32), G) _ _ _ ⟨(by show 0 ≤ (0 : Int32).toInt; decide), (by show (0 : Int32).toInt ≤ 1; decide), (by show ∀ j : Nat, G.1 ar j = if 1 * y.toInt.toNat ≤ j ∧ j < 1 * y.toInt.toNat + (0 : Int).toNat then G.1 ar (1 * x.toInt.toNat + (j - 1 * y.toInt.toNat)) else G.1 ar j; intro j; rw [if_neg (by omega)]), hF, hT, hS, lv_sub hl [0, 1, 2, 3, 4] rfl⟩
  intro w1 H locs ls hI ih1
  obtain ⟨x1_4, G_1⟩ := w1
  obtain ⟨i1_0, i1_1, i1_2, hF, hT, hS, hl⟩ := hI
  have i1_0 : 0 ≤ x1_4.toInt := i1_0
  have i1_1 : x1_4.toInt ≤ 1 := i1_1
  have i1_2 : (∀ j : Nat, G_1.1 ar j = if 1 * y.toInt.toNat ≤ j ∧ j < 1 * y.toInt.toNat + x1_4.toInt.toNat then G.1 ar (1 * x.toInt.toNat + (j - 1 * y.toInt.toNat)) else G.1 ar j) := i1_2
  have hF : Fr τ [76] G G_1 := hF
  have hT : TY D cy base τ G_1 H := hT
  have hS : va_S (RA base) s.heap H locs := hS
  have hl : lv_has ls 5 [(4, .int x1_4), (0, .ref ar), (1, .int 1), (2, .int x), (3, .int y)] := hl
  refine lv_iload hx hb dX10_copyRow_3 (lv_at hl 0 rfl) ?_
  refine lv_iload_n hx hb dX10_copyRow_5 rfl (lv_at hl 2 rfl) ?_
  refine lv_icmp_ge (tgt := 31) hx hb dX10_copyRow_6 (by decide) (fun c_2 => ?_) (fun c_2 => ?_)
  · skip
    have tc_2 : 1 ≤ x1_4.toInt := (fa_le _ _).mp c_2
    exact ret_v hx hb hr hlocks ⟨⟨hS.1, hS.2.1⟩, G_1, hF, ⟨rfl, (by have q9 := i1_2; rw [show x1_4.toInt.toNat = 1 by omega] at q9; exact q9)⟩, hT⟩ hS.2.2 (Nat.le_of_ble_eq_true rfl) (Nat.le_of_ble_eq_true rfl) dX10_copyRow_31
  · skip
    have tc_2 : ¬ 1 ≤ x1_4.toInt := fun h => c_2 ((fa_le _ _).mpr h)
    refine lv_aload_n hx hb dX10_copyRow_9 rfl (lv_at hl 1 rfl) ?_
    refine lv_iload_n hx hb dX10_copyRow_10 rfl (lv_at hl 2 rfl) ?_
    refine lv_iload_n hx hb dX10_copyRow_11 rfl (lv_at hl 4 rfl) ?_
    refine lv_imul hx hb dX10_copyRow_12 ?_
    refine lv_topi (fun z_3 ez_3 => ?_)
    have tz_3 : z_3.toInt = 1 * y.toInt := mul_t ez_3 (show -2147483648 ≤ 1 * y.toInt by omega) (show 1 * y.toInt < 2147483648 by omega)
    refine lv_iload hx hb dX10_copyRow_13 (lv_at hl 0 rfl) ?_
    refine lv_iadd hx hb dX10_copyRow_15 ?_
    refine lv_topi (fun z_4 ez_4 => ?_)
    have tz_4 : z_4.toInt = z_3.toInt + x1_4.toInt := add_t ez_4 (show -2147483648 ≤ z_3.toInt + x1_4.toInt by omega) (show z_3.toInt + x1_4.toInt < 2147483648 by omega)
    refine lv_aload_n hx hb dX10_copyRow_16 rfl (lv_at hl 1 rfl) ?_
    refine lv_iload_n hx hb dX10_copyRow_17 rfl (lv_at hl 2 rfl) ?_
    refine lv_iload_n hx hb dX10_copyRow_18 rfl (lv_at hl 3 rfl) ?_
    refine lv_imul hx hb dX10_copyRow_19 ?_
    refine lv_topi (fun z_5 ez_5 => ?_)
    have tz_5 : z_5.toInt = 1 * x.toInt := mul_t ez_5 (show -2147483648 ≤ 1 * x.toInt by omega) (show 1 * x.toInt < 2147483648 by omega)
    refine lv_iload hx hb dX10_copyRow_20 (lv_at hl 0 rfl) ?_
    refine lv_iadd hx hb dX10_copyRow_22 ?_
    refine lv_topi (fun z_6 ez_6 => ?_)
    have tz_6 : z_6.toInt = z_5.toInt + x1_4.toInt := add_t ez_6 (show -2147483648 ≤ z_5.toInt + x1_4.toInt by omega) (show z_5.toInt + x1_4.toInt < 2147483648 by omega)
    refine t_iald (n := 5) (i := z_6) rfl (by decide) hx hb hK hT h_ar (hT.len h_ar (by decide)) ⟨by omega, by omega⟩ dX10_copyRow_23 (fun z_7 ez_7 rz_7 => ?_)
    refine t_iast (n := 5) (i := z_4) (x := z_7) rfl (by decide) hx hb hK hT hS h_ar (hT.len h_ar (by decide)) ⟨by omega, by omega⟩ trivial dX10_copyRow_24 (fun H locs G_8 eG_8 hT hS => ?_)
    have hF := hF.wI eG_8 h_ar rfl
    obtain ⟨z_9, ez_9⟩ : ∃ y : Int32, y = x1_4 + 1 := ⟨_, rfl⟩
    have tz_9 : z_9.toInt = x1_4.toInt + 1 := add_t ez_9 (show -2147483648 ≤ x1_4.toInt + 1 by omega) (show x1_4.toInt + 1 < 2147483648 by omega)
    refine lv_iinc (v := z_9) (lv' := [(4, .int z_9), (0, .ref ar), (1, .int 1), (2, .int x), (3, .int y)]) hx hb dX10_copyRow_25 hl (k := 0) rfl (by rw [ez_9]; rfl) (by decide) rfl (fun ls hl => ?_)
    refine lv_goto (tgt := 3) hx hb dX10_copyRow_28 (by decide) ?_
    exact ih1 (z_9, G_8) _ _ _ (by show (1 - z_9.toInt).toNat < (1 - x1_4.toInt).toNat; omega) ⟨(by show 0 ≤ z_9.toInt; omega), (by show z_9.toInt ≤ 1; omega), by show ∀ j : Nat, G_8.1 ar j = if 1 * y.toInt.toNat ≤ j ∧ j < 1 * y.toInt.toNat + z_9.toInt.toNat then G.1 ar (1 * x.toInt.toNat + (j - 1 * y.toInt.toNat)) else G.1 ar j; have q1 : z_4.toNatClampNeg = 1 * y.toInt.toNat + x1_4.toInt.toNat := (show z_4.toInt.toNat = _ by omega); have q2 : z_6.toNatClampNeg = 1 * x.toInt.toNat + x1_4.toInt.toNat := (show z_6.toInt.toNat = _ by omega); have q3 := cp_step (A := 1 * x.toInt.toNat) (B := 1 * y.toInt.toNat) (k := x1_4.toInt.toNat) i1_2 (by omega); rw [← q1, ← q2] at q3; have q4 : z_9.toInt.toNat = x1_4.toInt.toNat + 1 := (by omega); rw [eG_8, wI_up, ez_7, q4]; exact q3, hF, hT, hS, lv_sub hl [0, 1, 2, 3, 4] rfl⟩
set_option maxHeartbeats 4000000 in
set_option maxRecDepth 100000 in
theorem t_X10_copyRow_77 (l : Launch) (D : va_G) (cy : Nat → ClassId) (base : Nat) (τ : Nat → Nat) (G : Gh) (ar : Nat) (h_ar : τ ar = 77) (x : Int32) (r_x : 0 ≤ x.toInt ∧ x.toInt ≤ 4) (y : Int32) (r_y : 0 ≤ y.toInt ∧ y.toInt ≤ 4) : MM l yX10_copyRow cX10_copyRow 5 none 0 0 0 D cy [.ref ar, .int 6, .int x, .int y] (PT D cy base τ G) (QT D cy base τ G [77] (fun v g => v = none ∧ ((∀ j : Nat, g.1 ar j = if 6 * y.toInt.toNat ≤ j ∧ j < 6 * y.toInt.toNat + 6 then G.1 ar (6 * x.toInt.toNat + (j - 6 * y.toInt.toNat)) else G.1 ar j)))) (RA base) := by
  refine MM.of (by decide) (Nat.le_of_ble_eq_true rfl) ?_
  intro p e s m below meth c C hPT ls hl
  obtain ⟨hx, hb, hr, hml, hown, hts, hlocks, hK, hnm⟩ := C
  obtain ⟨hZ, hT⟩ := hPT
  have hS : va_S (RA base) s.heap s.heap [] := va_S.rf
  have hF : Fr τ [77] G G := Fr.rf
  have hl : lv_has ls 5 [(0, .ref ar), (1, .int 6), (2, .int x), (3, .int y)] := hl
  refine lv_iconst (v := 0) hx hb dX10_copyRow_0 (by decide) ?_
  refine lv_istore (lv' := [(4, .int 0), (0, .ref ar), (1, .int 6), (2, .int x), (3, .int y)]) hx hb dX10_copyRow_1 hl (by decide) rfl (fun ls hl => ?_)
  refine W.loop (σ := Int32 × Gh) (fun w1 H locs ls => 0 ≤ w1.1.toInt ∧ w1.1.toInt ≤ 6 ∧ (∀ j : Nat, w1.2.1 ar j = if 6 * y.toInt.toNat ≤ j ∧ j < 6 * y.toInt.toNat + w1.1.toInt.toNat then G.1 ar (6 * x.toInt.toNat + (j - 6 * y.toInt.toNat)) else G.1 ar j) ∧ Fr τ [77] G w1.2 ∧ TY D cy base τ w1.2 H ∧ va_S (RA base) s.heap H locs ∧ lv_has ls 5 [(4, .int w1.1), (0, .ref ar), (1, .int 6), (2, .int x), (3, .int y)]) (fun w1 => (6 - w1.1.toInt).toNat) ?_ ((0 : Int32), G) _ _ _ ⟨(by show 0 ≤ (0 : Int32).toInt; decide), (by show (0 : Int32).toInt ≤ 6; decide), (by show ∀ j : Nat, G.1 ar j = if 6 * y.toInt.toNat ≤ j ∧ j < 6 * y.toInt.toNat + (0 : Int).toNat then G.1 ar (6 * x.toInt.toNat + (j - 6 * y.toInt.toNat)) else G.1 ar j; intro j; rw [if_neg (by omega)]), hF, hT, hS, lv_sub hl [0, 1, 2, 3, 4] rfl⟩
  intro w1 H locs ls hI ih1
  obtain ⟨x1_4, G_1⟩ := w1
  obtain ⟨i1_0, i1_1, i1_2, hF, hT, hS, hl⟩ := hI
  have i1_0 : 0 ≤ x1_4.toInt := i1_0
  have i1_1 : x1_4.toInt ≤ 6 := i1_1
  have i1_2 : (∀ j : Nat, G_1.1 ar j = if 6 * y.toInt.toNat ≤ j ∧ j < 6 * y.toInt.toNat + x1_4.toInt.toNat then G.1 ar (6 * x.toInt.toNat + (j - 6 * y.toInt.toNat)) else G.1 ar j) := i1_2
  have hF : Fr τ [77] G G_1 := hF
  have hT : TY D cy base τ G_1 H := hT
  have hS : va_S (RA base) s.heap H locs := hS
  have hl : lv_has ls 5 [(4, .int x1_4), (0, .ref ar), (1, .int 6), (2, .int x), (3, .int y)] := hl
  refine lv_iload hx hb dX10_copyRow_3 (lv_at hl 0 rfl) ?_
  refine lv_iload_n hx hb dX10_copyRow_5 rfl (lv_at hl 2 rfl) ?_
  refine lv_icmp_ge (tgt := 31) hx hb dX10_copyRow_6 (by decide) (fun c_2 => ?_) (fun c_2 => ?_)
  · skip
    have tc_2 : 6 ≤ x1_4.toInt := (fa_le _ _).mp c_2
    exact ret_v hx hb hr hlocks ⟨⟨hS.1, hS.2.1⟩, G_1, hF, ⟨rfl, (by have q9 := i1_2; rw [show x1_4.toInt.toNat = 6 by omega] at q9; exact q9)⟩, hT⟩ hS.2.2 (Nat.le_of_ble_eq_true rfl) (Nat.le_of_ble_eq_true rfl) dX10_copyRow_31
  · skip
    have tc_2 : ¬ 6 ≤ x1_4.toInt := fun h => c_2 ((fa_le _ _).mpr h)
    refine lv_aload_n hx hb dX10_copyRow_9 rfl (lv_at hl 1 rfl) ?_
    refine lv_iload_n hx hb dX10_copyRow_10 rfl (lv_at hl 2 rfl) ?_
    refine lv_iload_n hx hb dX10_copyRow_11 rfl (lv_at hl 4 rfl) ?_
    refine lv_imul hx hb dX10_copyRow_12 ?_
    refine lv_topi (fun z_3 ez_3 => ?_)
    have tz_3 : z_3.toInt = 6 * y.toInt := mul_t ez_3 (show -2147483648 ≤ 6 * y.toInt by omega) (show 6 * y.toInt < 2147483648 by omega)
    refine lv_iload hx hb dX10_copyRow_13 (lv_at hl 0 rfl) ?_
    refine lv_iadd hx hb dX10_copyRow_15 ?_
    refine lv_topi (fun z_4 ez_4 => ?_)
    have tz_4 : z_4.toInt = z_3.toInt + x1_4.toInt := add_t ez_4 (show -2147483648 ≤ z_3.toInt + x1_4.toInt by omega) (show z_3.toInt + x1_4.toInt < 2147483648 by omega)
    refine lv_aload_n hx hb dX10_copyRow_16 rfl (lv_at hl 1 rfl) ?_
    refine lv_iload_n hx hb dX10_copyRow_17 rfl (lv_at hl 2 rfl) ?_
    refine lv_iload_n hx hb dX10_copyRow_18 rfl (lv_at hl 3 rfl) ?_
    refine lv_imul hx hb dX10_copyRow_19 ?_
    refine lv_topi (fun z_5 ez_5 => ?_)
    have tz_5 : z_5.toInt = 6 * x.toInt := mul_t ez_5 (show -2147483648 ≤ 6 * x.toInt by omega) (show 6 * x.toInt < 2147483648 by omega)
    refine lv_iload hx hb dX10_copyRow_20 (lv_at hl 0 rfl) ?_
    refine lv_iadd hx hb dX10_copyRow_22 ?_
    refine lv_topi (fun z_6 ez_6 => ?_)
    have tz_6 : z_6.toInt = z_5.toInt + x1_4.toInt := add_t ez_6 (show -2147483648 ≤ z_5.toInt + x1_4.toInt by omega) (show z_5.toInt + x1_4.toInt < 2147483648 by omega)
    refine t_iald (n := 30) (i := z_6) rfl (by decide) hx hb hK hT h_ar (hT.len h_ar (by decide)) ⟨by omega, by omega⟩ dX10_copyRow_23 (fun z_7 ez_7 rz_7 => ?_)
    refine t_iast (n := 30) (i := z_4) (x := z_7) rfl (by decide) hx hb hK hT hS h_ar (hT.len h_ar (by decide)) ⟨by omega, by omega⟩ trivial dX10_copyRow_24 (fun H locs G_8 eG_8 hT hS => ?_)
    have hF := hF.wI eG_8 h_ar rfl
    obtain ⟨z_9, ez_9⟩ : ∃ y : Int32, y = x1_4 + 1 := ⟨_, rfl⟩
    have tz_9 : z_9.toInt = x1_4.toInt + 1 := add_t ez_9 (show -2147483648 ≤ x1_4.toInt + 1 by omega) (show x1_4.toInt + 1 < 2147483648 by omega)
    refine lv_iinc (v := z_9) (lv' := [(4, .int z_9), (0, .ref ar), (1, .int 6), (2, .int x), (3, .int y)]) hx hb dX10_copyRow_25 hl (k := 0) rfl (by rw [ez_9]; rfl) (by decide) rfl (fun ls hl => ?_)
    refine lv_goto (tgt := 3) hx hb dX10_copyRow_28 (by decide) ?_
    exact ih1 (z_9, G_8) _ _ _ (by show (6 - z_9.toInt).toNat < (6 - x1_4.toInt).toNat; omega) ⟨(by show 0 ≤ z_9.toInt; omega), (by show z_9.toInt ≤ 6; omega), by show ∀ j : Nat, G_8.1 ar j = if 6 * y.toInt.toNat ≤ j ∧ j < 6 * y.toInt.toNat + z_9.toInt.toNat then G.1 ar (6 * x.toInt.toNat + (j - 6 * y.toInt.toNat)) else G.1 ar j; have q1 : z_4.toNatClampNeg = 6 * y.toInt.toNat + x1_4.toInt.toNat := (show z_4.toInt.toNat = _ by omega); have q2 : z_6.toNatClampNeg = 6 * x.toInt.toNat + x1_4.toInt.toNat := (show z_6.toInt.toNat = _ by omega); have q3 := cp_step (A := 6 * x.toInt.toNat) (B := 6 * y.toInt.toNat) (k := x1_4.toInt.toNat) i1_2 (by omega); rw [← q1, ← q2] at q3; have q4 : z_9.toInt.toNat = x1_4.toInt.toNat + 1 := (by omega); rw [eG_8, wI_up, ez_7, q4]; exact q3, hF, hT, hS, lv_sub hl [0, 1, 2, 3, 4] rfl⟩
