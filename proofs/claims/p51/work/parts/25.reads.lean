theorem dX10_line_0 : decode cX10_line 0 = .ok (.aload_n 0, 1) := by decide +kernel
theorem dX10_line_1 : decode cX10_line 1 = .ok (.ldc2_w 224, 3) := by decide +kernel
theorem dX10_line_4 : decode cX10_line 4 = .ok (.invokevirtual 169, 3) := by decide +kernel
theorem dX10_line_7 : decode cX10_line 7 = .ok (.ifCond .eq 7, 3) := by decide +kernel
theorem dX10_line_10 : decode cX10_line 10 = .ok (.iconst 0, 1) := by decide +kernel
theorem dX10_line_11 : decode cX10_line 11 = .ok (.goto 32, 3) := by decide +kernel
theorem dX10_line_43 : decode cX10_line 43 = .ok (.istore_n 1, 1) := by decide +kernel
theorem dX10_line_44 : decode cX10_line 44 = .ok (.iload_n 1, 1) := by decide +kernel
theorem dX10_line_45 : decode cX10_line 45 = .ok (.iconst (-1), 1) := by decide +kernel
theorem dX10_line_46 : decode cX10_line 46 = .ok (.if_icmp .eq 9, 3) := by decide +kernel
theorem dX10_line_49 : decode cX10_line 49 = .ok (.aload_n 0, 1) := by decide +kernel
theorem dX10_line_50 : decode cX10_line 50 = .ok (.iload_n 1, 1) := by decide +kernel
theorem dX10_line_51 : decode cX10_line 51 = .ok (.invokevirtual 230, 3) := by decide +kernel
theorem dX10_line_54 : decode cX10_line 54 = .ok (.return_, 1) := by decide +kernel
theorem dX10_line_14 : decode cX10_line 14 = .ok (.aload_n 0, 1) := by decide +kernel
theorem dX10_line_15 : decode cX10_line 15 = .ok (.ldc2_w 226, 3) := by decide +kernel
theorem dX10_line_18 : decode cX10_line 18 = .ok (.invokevirtual 169, 3) := by decide +kernel
theorem dX10_line_21 : decode cX10_line 21 = .ok (.ifCond .eq 7, 3) := by decide +kernel
theorem dX10_line_24 : decode cX10_line 24 = .ok (.iconst 1, 1) := by decide +kernel
theorem dX10_line_25 : decode cX10_line 25 = .ok (.goto 18, 3) := by decide +kernel
theorem dX10_line_28 : decode cX10_line 28 = .ok (.aload_n 0, 1) := by decide +kernel
theorem dX10_line_29 : decode cX10_line 29 = .ok (.ldc2_w 228, 3) := by decide +kernel
theorem dX10_line_32 : decode cX10_line 32 = .ok (.invokevirtual 169, 3) := by decide +kernel
theorem dX10_line_35 : decode cX10_line 35 = .ok (.ifCond .eq 7, 3) := by decide +kernel
theorem dX10_line_38 : decode cX10_line 38 = .ok (.iconst 2, 1) := by decide +kernel
theorem dX10_line_39 : decode cX10_line 39 = .ok (.goto 4, 3) := by decide +kernel
theorem dX10_line_42 : decode cX10_line 42 = .ok (.iconst (-1), 1) := by decide +kernel
theorem dX10_line_55 : decode cX10_line 55 = .ok (.aload_n 0, 1) := by decide +kernel
theorem dX10_line_56 : decode cX10_line 56 = .ok (.ldc2_w 233, 3) := by decide +kernel
theorem dX10_line_59 : decode cX10_line 59 = .ok (.invokevirtual 169, 3) := by decide +kernel
theorem dX10_line_62 : decode cX10_line 62 = .ok (.istore_n 2, 1) := by decide +kernel
theorem dX10_line_63 : decode cX10_line 63 = .ok (.aload_n 0, 1) := by decide +kernel
theorem dX10_line_64 : decode cX10_line 64 = .ok (.ldc2_w 235, 3) := by decide +kernel
theorem dX10_line_67 : decode cX10_line 67 = .ok (.invokevirtual 169, 3) := by decide +kernel
theorem dX10_line_70 : decode cX10_line 70 = .ok (.istore_n 3, 1) := by decide +kernel
theorem dX10_line_71 : decode cX10_line 71 = .ok (.iload_n 2, 1) := by decide +kernel
theorem dX10_line_72 : decode cX10_line 72 = .ok (.ifCond .ne 22, 3) := by decide +kernel
theorem dX10_line_94 : decode cX10_line 94 = .ok (.iload_n 2, 1) := by decide +kernel
theorem dX10_line_95 : decode cX10_line 95 = .ok (.ifCond .eq 16, 3) := by decide +kernel
theorem dX10_line_98 : decode cX10_line 98 = .ok (.aload_n 0, 1) := by decide +kernel
theorem dX10_line_99 : decode cX10_line 99 = .ok (.getfield 37, 3) := by decide +kernel
theorem dX10_line_102 : decode cX10_line 102 = .ok (.iconst 4, 1) := by decide +kernel
theorem dX10_line_103 : decode cX10_line 103 = .ok (.iaload, 1) := by decide +kernel
theorem dX10_line_104 : decode cX10_line 104 = .ok (.iconst 3, 1) := by decide +kernel
theorem dX10_line_105 : decode cX10_line 105 = .ok (.if_icmp .ne 40, 3) := by decide +kernel
theorem dX10_line_145 : decode cX10_line 145 = .ok (.aload_n 0, 1) := by decide +kernel
theorem dX10_line_146 : decode cX10_line 146 = .ok (.getfield 163, 3) := by decide +kernel
theorem dX10_line_149 : decode cX10_line 149 = .ok (.ifCond .eq 4, 3) := by decide +kernel
theorem dX10_line_153 : decode cX10_line 153 = .ok (.aload_n 0, 1) := by decide +kernel
theorem dX10_line_154 : decode cX10_line 154 = .ok (.invokevirtual 173, 3) := by decide +kernel
theorem dX10_line_157 : decode cX10_line 157 = .ok (.iload_n 2, 1) := by decide +kernel
theorem dX10_line_158 : decode cX10_line 158 = .ok (.ifCond .eq 10, 3) := by decide +kernel
theorem dX10_line_161 : decode cX10_line 161 = .ok (.aload_n 0, 1) := by decide +kernel
theorem dX10_line_162 : decode cX10_line 162 = .ok (.invokevirtual 239, 3) := by decide +kernel
theorem dX10_line_165 : decode cX10_line 165 = .ok (.goto 18, 3) := by decide +kernel
theorem dX10_line_183 : decode cX10_line 183 = .ok (.return_, 1) := by decide +kernel
theorem dX10_line_108 : decode cX10_line 108 = .ok (.goto 32, 3) := by decide +kernel
theorem dX10_line_140 : decode cX10_line 140 = .ok (.aload_n 0, 1) := by decide +kernel
theorem dX10_line_141 : decode cX10_line 141 = .ok (.iconst 3, 1) := by decide +kernel
theorem dX10_line_142 : decode cX10_line 142 = .ok (.invokevirtual 179, 3) := by decide +kernel
theorem dX10_line_152 : decode cX10_line 152 = .ok (.return_, 1) := by decide +kernel
theorem dX10_line_75 : decode cX10_line 75 = .ok (.iload_n 3, 1) := by decide +kernel
theorem dX10_line_76 : decode cX10_line 76 = .ok (.ifCond .ne 18, 3) := by decide +kernel
theorem dX10_line_111 : decode cX10_line 111 = .ok (.iload_n 3, 1) := by decide +kernel
theorem dX10_line_112 : decode cX10_line 112 = .ok (.ifCond .eq 17, 3) := by decide +kernel
theorem dX10_line_115 : decode cX10_line 115 = .ok (.aload_n 0, 1) := by decide +kernel
theorem dX10_line_116 : decode cX10_line 116 = .ok (.getfield 43, 3) := by decide +kernel
theorem dX10_line_119 : decode cX10_line 119 = .ok (.iconst 4, 1) := by decide +kernel
theorem dX10_line_120 : decode cX10_line 120 = .ok (.iaload, 1) := by decide +kernel
theorem dX10_line_121 : decode cX10_line 121 = .ok (.bipush 6, 2) := by decide +kernel
theorem dX10_line_123 : decode cX10_line 123 = .ok (.if_icmp .ne 22, 3) := by decide +kernel
theorem dX10_line_168 : decode cX10_line 168 = .ok (.iload_n 3, 1) := by decide +kernel
theorem dX10_line_169 : decode cX10_line 169 = .ok (.ifCond .eq 10, 3) := by decide +kernel
theorem dX10_line_172 : decode cX10_line 172 = .ok (.aload_n 0, 1) := by decide +kernel
theorem dX10_line_173 : decode cX10_line 173 = .ok (.invokevirtual 242, 3) := by decide +kernel
theorem dX10_line_176 : decode cX10_line 176 = .ok (.goto 7, 3) := by decide +kernel
theorem dX10_line_126 : decode cX10_line 126 = .ok (.goto 14, 3) := by decide +kernel
theorem dX10_line_79 : decode cX10_line 79 = .ok (.aload_n 0, 1) := by decide +kernel
theorem dX10_line_80 : decode cX10_line 80 = .ok (.ldc2_w 237, 3) := by decide +kernel
theorem dX10_line_83 : decode cX10_line 83 = .ok (.invokevirtual 169, 3) := by decide +kernel
theorem dX10_line_86 : decode cX10_line 86 = .ok (.ifCond .ne 8, 3) := by decide +kernel
theorem dX10_line_129 : decode cX10_line 129 = .ok (.aload_n 0, 1) := by decide +kernel
theorem dX10_line_130 : decode cX10_line 130 = .ok (.getfield 49, 3) := by decide +kernel
theorem dX10_line_133 : decode cX10_line 133 = .ok (.iconst 4, 1) := by decide +kernel
theorem dX10_line_134 : decode cX10_line 134 = .ok (.iaload, 1) := by decide +kernel
theorem dX10_line_135 : decode cX10_line 135 = .ok (.bipush 8, 2) := by decide +kernel
theorem dX10_line_137 : decode cX10_line 137 = .ok (.if_icmp .ne 8, 3) := by decide +kernel
theorem dX10_line_179 : decode cX10_line 179 = .ok (.aload_n 0, 1) := by decide +kernel
theorem dX10_line_180 : decode cX10_line 180 = .ok (.invokevirtual 245, 3) := by decide +kernel
theorem dX10_line_89 : decode cX10_line 89 = .ok (.aload_n 0, 1) := by decide +kernel
theorem dX10_line_90 : decode cX10_line 90 = .ok (.iconst 1, 1) := by decide +kernel
theorem dX10_line_91 : decode cX10_line 91 = .ok (.invokevirtual 179, 3) := by decide +kernel
theorem dX10_clears_0 : decode cX10_clears 0 = .ok (.aload_n 0, 1) := by decide +kernel
theorem dX10_clears_1 : decode cX10_clears 1 = .ok (.getfield 31, 3) := by decide +kernel
theorem dX10_clears_4 : decode cX10_clears 4 = .ok (.iconst 4, 1) := by decide +kernel
theorem dX10_clears_5 : decode cX10_clears 5 = .ok (.iconst 0, 1) := by decide +kernel
theorem dX10_clears_6 : decode cX10_clears 6 = .ok (.iastore, 1) := by decide +kernel
theorem dX10_clears_7 : decode cX10_clears 7 = .ok (.iconst 0, 1) := by decide +kernel
theorem dX10_clears_8 : decode cX10_clears 8 = .ok (.istore_n 1, 1) := by decide +kernel
theorem dX10_clears_9 : decode cX10_clears 9 = .ok (.iload_n 1, 1) := by decide +kernel
theorem dX10_clears_10 : decode cX10_clears 10 = .ok (.iconst 4, 1) := by decide +kernel
theorem dX10_clears_11 : decode cX10_clears 11 = .ok (.if_icmp .ge 19, 3) := by decide +kernel
theorem dX10_clears_30 : decode cX10_clears 30 = .ok (.aload_n 0, 1) := by decide +kernel
theorem dX10_clears_31 : decode cX10_clears 31 = .ok (.getfield 37, 3) := by decide +kernel
theorem dX10_clears_34 : decode cX10_clears 34 = .ok (.iconst 4, 1) := by decide +kernel
theorem dX10_clears_35 : decode cX10_clears 35 = .ok (.iconst 0, 1) := by decide +kernel
theorem dX10_clears_36 : decode cX10_clears 36 = .ok (.iastore, 1) := by decide +kernel
theorem dX10_clears_37 : decode cX10_clears 37 = .ok (.aload_n 0, 1) := by decide +kernel
theorem dX10_clears_38 : decode cX10_clears 38 = .ok (.getfield 43, 3) := by decide +kernel
theorem dX10_clears_41 : decode cX10_clears 41 = .ok (.iconst 4, 1) := by decide +kernel
theorem dX10_clears_42 : decode cX10_clears 42 = .ok (.iconst 0, 1) := by decide +kernel
theorem dX10_clears_43 : decode cX10_clears 43 = .ok (.iastore, 1) := by decide +kernel
theorem dX10_clears_44 : decode cX10_clears 44 = .ok (.aload_n 0, 1) := by decide +kernel
theorem dX10_clears_45 : decode cX10_clears 45 = .ok (.getfield 49, 3) := by decide +kernel
theorem dX10_clears_48 : decode cX10_clears 48 = .ok (.iconst 4, 1) := by decide +kernel
theorem dX10_clears_49 : decode cX10_clears 49 = .ok (.iconst 0, 1) := by decide +kernel
theorem dX10_clears_50 : decode cX10_clears 50 = .ok (.iastore, 1) := by decide +kernel
theorem dX10_clears_51 : decode cX10_clears 51 = .ok (.iconst 0, 1) := by decide +kernel
theorem dX10_clears_52 : decode cX10_clears 52 = .ok (.istore_n 1, 1) := by decide +kernel
theorem dX10_clears_53 : decode cX10_clears 53 = .ok (.iload_n 1, 1) := by decide +kernel
theorem dX10_clears_54 : decode cX10_clears 54 = .ok (.bipush 6, 2) := by decide +kernel
theorem dX10_clears_56 : decode cX10_clears 56 = .ok (.if_icmp .ge 37, 3) := by decide +kernel
theorem dX10_clears_93 : decode cX10_clears 93 = .ok (.iconst 0, 1) := by decide +kernel
theorem dX10_clears_94 : decode cX10_clears 94 = .ok (.istore_n 1, 1) := by decide +kernel
theorem dX10_clears_95 : decode cX10_clears 95 = .ok (.iload_n 1, 1) := by decide +kernel
theorem dX10_clears_96 : decode cX10_clears 96 = .ok (.iconst 3, 1) := by decide +kernel
theorem dX10_clears_97 : decode cX10_clears 97 = .ok (.if_icmp .ge 19, 3) := by decide +kernel
theorem dX10_clears_116 : decode cX10_clears 116 = .ok (.return_, 1) := by decide +kernel
theorem dX10_clears_100 : decode cX10_clears 100 = .ok (.aload_n 0, 1) := by decide +kernel
theorem dX10_clears_101 : decode cX10_clears 101 = .ok (.getfield 58, 3) := by decide +kernel
theorem dX10_clears_104 : decode cX10_clears 104 = .ok (.bipush 12, 2) := by decide +kernel
theorem dX10_clears_106 : decode cX10_clears 106 = .ok (.iload_n 1, 1) := by decide +kernel
theorem dX10_clears_107 : decode cX10_clears 107 = .ok (.iadd, 1) := by decide +kernel
theorem dX10_clears_108 : decode cX10_clears 108 = .ok (.iconst 0, 1) := by decide +kernel
theorem dX10_clears_109 : decode cX10_clears 109 = .ok (.bastore, 1) := by decide +kernel
theorem dX10_clears_110 : decode cX10_clears 110 = .ok (.iinc 1 1, 3) := by decide +kernel
theorem dX10_clears_113 : decode cX10_clears 113 = .ok (.goto (-18), 3) := by decide +kernel
theorem dX10_clears_59 : decode cX10_clears 59 = .ok (.aload_n 0, 1) := by decide +kernel
theorem dX10_clears_60 : decode cX10_clears 60 = .ok (.getfield 55, 3) := by decide +kernel
theorem dX10_clears_63 : decode cX10_clears 63 = .ok (.bipush 24, 2) := by decide +kernel
theorem dX10_clears_65 : decode cX10_clears 65 = .ok (.iload_n 1, 1) := by decide +kernel
theorem dX10_clears_66 : decode cX10_clears 66 = .ok (.iadd, 1) := by decide +kernel
theorem dX10_clears_67 : decode cX10_clears 67 = .ok (.iload_n 1, 1) := by decide +kernel
theorem dX10_clears_68 : decode cX10_clears 68 = .ok (.ifCond .ne 7, 3) := by decide +kernel
theorem dX10_clears_75 : decode cX10_clears 75 = .ok (.iload_n 1, 1) := by decide +kernel
theorem dX10_clears_76 : decode cX10_clears 76 = .ok (.iconst 1, 1) := by decide +kernel
theorem dX10_clears_77 : decode cX10_clears 77 = .ok (.if_icmp .ne 8, 3) := by decide +kernel
theorem dX10_clears_85 : decode cX10_clears 85 = .ok (.iconst 0, 1) := by decide +kernel
theorem dX10_clears_86 : decode cX10_clears 86 = .ok (.iastore, 1) := by decide +kernel
theorem dX10_clears_87 : decode cX10_clears 87 = .ok (.iinc 1 1, 3) := by decide +kernel
theorem dX10_clears_90 : decode cX10_clears 90 = .ok (.goto (-37), 3) := by decide +kernel
theorem dX10_clears_80 : decode cX10_clears 80 = .ok (.bipush 10, 2) := by decide +kernel
theorem dX10_clears_82 : decode cX10_clears 82 = .ok (.goto 4, 3) := by decide +kernel
theorem dX10_clears_71 : decode cX10_clears 71 = .ok (.iconst 1, 1) := by decide +kernel
theorem dX10_clears_72 : decode cX10_clears 72 = .ok (.goto 14, 3) := by decide +kernel
theorem dX10_clears_14 : decode cX10_clears 14 = .ok (.aload_n 0, 1) := by decide +kernel
theorem dX10_clears_15 : decode cX10_clears 15 = .ok (.getfield 34, 3) := by decide +kernel
theorem dX10_clears_18 : decode cX10_clears 18 = .ok (.bipush 16, 2) := by decide +kernel
theorem dX10_clears_20 : decode cX10_clears 20 = .ok (.iload_n 1, 1) := by decide +kernel
theorem dX10_clears_21 : decode cX10_clears 21 = .ok (.iadd, 1) := by decide +kernel
theorem dX10_clears_22 : decode cX10_clears 22 = .ok (.iconst 0, 1) := by decide +kernel
theorem dX10_clears_23 : decode cX10_clears 23 = .ok (.iastore, 1) := by decide +kernel
theorem dX10_clears_24 : decode cX10_clears 24 = .ok (.iinc 1 1, 3) := by decide +kernel
theorem dX10_clears_27 : decode cX10_clears 27 = .ok (.goto (-18), 3) := by decide +kernel
theorem dX10_copyRow_0 : decode cX10_copyRow 0 = .ok (.iconst 0, 1) := by decide +kernel
theorem dX10_copyRow_1 : decode cX10_copyRow 1 = .ok (.istore 4, 2) := by decide +kernel
theorem dX10_copyRow_3 : decode cX10_copyRow 3 = .ok (.iload 4, 2) := by decide +kernel
theorem dX10_copyRow_5 : decode cX10_copyRow 5 = .ok (.iload_n 1, 1) := by decide +kernel
theorem dX10_copyRow_6 : decode cX10_copyRow 6 = .ok (.if_icmp .ge 25, 3) := by decide +kernel
theorem dX10_copyRow_31 : decode cX10_copyRow 31 = .ok (.return_, 1) := by decide +kernel
theorem dX10_copyRow_9 : decode cX10_copyRow 9 = .ok (.aload_n 0, 1) := by decide +kernel
theorem dX10_copyRow_10 : decode cX10_copyRow 10 = .ok (.iload_n 1, 1) := by decide +kernel
theorem dX10_copyRow_11 : decode cX10_copyRow 11 = .ok (.iload_n 3, 1) := by decide +kernel
theorem dX10_copyRow_12 : decode cX10_copyRow 12 = .ok (.imul, 1) := by decide +kernel
theorem dX10_copyRow_13 : decode cX10_copyRow 13 = .ok (.iload 4, 2) := by decide +kernel
theorem dX10_copyRow_15 : decode cX10_copyRow 15 = .ok (.iadd, 1) := by decide +kernel
theorem dX10_copyRow_16 : decode cX10_copyRow 16 = .ok (.aload_n 0, 1) := by decide +kernel
theorem dX10_copyRow_17 : decode cX10_copyRow 17 = .ok (.iload_n 1, 1) := by decide +kernel
theorem dX10_copyRow_18 : decode cX10_copyRow 18 = .ok (.iload_n 2, 1) := by decide +kernel
theorem dX10_copyRow_19 : decode cX10_copyRow 19 = .ok (.imul, 1) := by decide +kernel
theorem dX10_copyRow_20 : decode cX10_copyRow 20 = .ok (.iload 4, 2) := by decide +kernel
theorem dX10_copyRow_22 : decode cX10_copyRow 22 = .ok (.iadd, 1) := by decide +kernel
theorem dX10_copyRow_23 : decode cX10_copyRow 23 = .ok (.iaload, 1) := by decide +kernel
theorem dX10_copyRow_24 : decode cX10_copyRow 24 = .ok (.iastore, 1) := by decide +kernel
theorem dX10_copyRow_25 : decode cX10_copyRow 25 = .ok (.iinc 4 1, 3) := by decide +kernel
theorem dX10_copyRow_28 : decode cX10_copyRow 28 = .ok (.goto (-25), 3) := by decide +kernel
theorem sV_X10_230 : SiteV RX10 230 yX10_onceLine cX10_onceLine 3 none 1 := ⟨ml_X10_230, im_X10_onceLine, se_X10_onceLine, ini_X10, co_X10_onceLine, by decide +kernel⟩
theorem sV_X10_239 : SiteV RX10 239 yX10_thingLine cX10_thingLine 2 none 0 := ⟨ml_X10_239, im_X10_thingLine, se_X10_thingLine, ini_X10, co_X10_thingLine, by decide +kernel⟩
theorem sV_X10_242 : SiteV RX10 242 yX10_valleyLine cX10_valleyLine 3 none 0 := ⟨ml_X10_242, im_X10_valleyLine, se_X10_valleyLine, ini_X10, co_X10_valleyLine, by decide +kernel⟩
theorem sV_X10_245 : SiteV RX10 245 yX10_pathLine cX10_pathLine 6 none 0 := ⟨ml_X10_245, im_X10_pathLine, se_X10_pathLine, ini_X10, co_X10_pathLine, by decide +kernel⟩
theorem cp_step {f g : Nat → Int32} {A B k : Nat} (F : ∀ j, g j = if B ≤ j ∧ j < B + k then f (A + (j - B)) else f j) (hs : ¬ (B ≤ A + k ∧ A + k < B + k)) : ∀ j, (upd g (B + k) (g (A + k))) j = if B ≤ j ∧ j < B + (k + 1) then f (A + (j - B)) else f j := by
  intro j
  unfold upd
  by_cases h : j = B + k
  · rw [if_pos h, F (A + k), if_neg hs, if_pos (by omega), show A + (j - B) = A + k by omega]
  · rw [if_neg h, F j]
    by_cases h2 : B ≤ j ∧ j < B + k
    · rw [if_pos h2, if_pos (by omega)]
    · rw [if_neg h2, if_neg (by omega)]
set_option maxHeartbeats 4000000 in
set_option maxRecDepth 100000 in
theorem t_X10_line (l : Launch) (D : va_G) (cy : Nat → ClassId) (base : Nat) (τ : Nat → Nat) (G : Gh) (a : Nat) (h_a : τ a = 11) (tha : Nat) (h_tha : τ tha = 68) (e_tha : G.2.2.1 a 18 = some tha) (sa : Nat) (h_sa : τ sa = 74) (e_sa : G.2.2.1 a 24 = some sa) (tp : Int32) (e_tp : tp = G.1 a 6) (r_tp : 0 ≤ tp.toInt ∧ tp.toInt ≤ 1600) (a0 : Int32) (e_a0 : a0 = G.1 a 7) (r_a0 : 0 ≤ a0.toInt ∧ a0.toInt ≤ 1600) (sc : Int32) (e_sc : sc = G.1 sa 25) (r_sc : 1 ≤ sc.toInt ∧ sc.toInt ≤ 50) (hat : a0.toInt ≤ tp.toInt) : MM l yX10_line cX10_line 4 none 6 0 0 D cy [.ref a] (PT D cy base τ G) (QT D cy base τ G [11, 68, 69, 70, 71, 72, 73, 74, 75] (fun v g => v = none ∧ ((a0.toInt ≤ (g.1 a 7).toInt) ∧ ((g.1 a 7).toInt ≤ tp.toInt) ∧ (1 ≤ (g.1 sa 25).toInt) ∧ g.1 a 6 = G.1 a 6 ∧ (∀ j : Nat, j ≠ 4 → g.1 tha j = G.1 tha j) ∧ (∀ j : Nat, j < 24 → g.1 sa j = G.1 sa j)))) (RA base) := by
  refine MM.of (by decide) (Nat.le_of_ble_eq_true rfl) ?_
  intro p e s m below meth c C hPT ls hl
  obtain ⟨hx, hb, hr, hml, hown, hts, hlocks, hK, hnm⟩ := C
  obtain ⟨hZ, hT⟩ := hPT
  have hS : va_S (RA base) s.heap s.heap [] := va_S.rf
  have hF : Fr τ [11, 68, 69, 70, 71, 72, 73, 74, 75] G G := Fr.rf
  have kx0 : ∀ j : Nat, j ≠ 4 → G.1 tha j = G.1 tha j := fun _ _ => rfl
  have kx1 : ∀ j : Nat, j < 24 → G.1 sa j = G.1 sa j := fun _ _ => rfl
  have hl : lv_has ls 4 [(0, .ref a)] := hl
  refine lv_aload_n hx hb dX10_line_0 rfl (lv_at hl 0 rfl) ?_
  refine lv_ldc2 (v := 6686170) hx hb hown (hts _ kl_X10_224) dX10_line_1 ?_
  obtain ⟨z_1, ez_1⟩ : ∃ y : Int32, y = G.1 a 12 := ⟨_, rfl⟩
  obtain ⟨z_2, ez_2⟩ : ∃ y : Int32, y = G.1 a 8 := ⟨_, rfl⟩
  refine pu_calli (runV (As := [.long 6686170]) (rest := []) ⟨hx, hb, hml, hown, hts⟩ (t_X10_is l D cy base τ G a h_a 6686170 z_1 ez_1 z_2 ez_2) sV_X10_169 hK (t_recv cf_11 hK hT h_a) ⟨Nat.le_trans hZ hS.1, hT⟩ ⟨Nat.le_of_ble_eq_true rfl, Nat.le_of_ble_eq_true rfl⟩ rfl hl.1 rfl (Nat.le_of_ble_eq_true rfl) dX10_line_4 ⟨Nat.le_of_ble_eq_true rfl, Nat.le_of_ble_eq_true rfl⟩) (fun r_3 hr_3 => ?_)
  have hr_3_c := hr_3
  rcases hr_3_c with hr_3_0 | hr_3_1
  · skip
    obtain ⟨er_3, hr_3_0_f0, hr_3_0_f1⟩ := hr_3_0
    have hr_3_0_f0 : z_1.toInt = 0 := hr_3_0_f0
    have hr_3_0_f1 : z_2.toInt = 1 := hr_3_0_f1
    subst er_3
    refine W.eq (g2 := F0 m 7 ls [.int 1]) rfl ?_
    refine lv_if_eq (tgt := 14) hx hb dX10_line_7 (by decide) (fun c_4 => absurd c_4 (by decide)) (fun _ => ?_)
    refine lv_iconst (v := 0) hx hb dX10_line_10 (by decide) ?_
    refine lv_goto (tgt := 43) hx hb dX10_line_11 (by decide) ?_
    refine lv_istore_n (lv' := [(1, .int 0), (0, .ref a)]) hx hb dX10_line_43 rfl hl (by decide) rfl (fun ls hl => ?_)
    refine lv_iload_n hx hb dX10_line_44 rfl (lv_at hl 0 rfl) ?_
    refine lv_iconst (v := (-1)) hx hb dX10_line_45 (by decide) ?_
    refine lv_icmp_eq (tgt := 55) hx hb dX10_line_46 (by decide) (fun c_5 => absurd c_5 (by decide)) (fun _ => ?_)
    refine lv_aload_n hx hb dX10_line_49 rfl (lv_at hl 1 rfl) ?_
    refine lv_iload_n hx hb dX10_line_50 rfl (lv_at hl 0 rfl) ?_
    refine t_callv (runV (As := [.int 0]) (rest := []) ⟨hx, hb, hml, hown, hts⟩ (t_X10_onceLine l D cy base τ G a h_a 0 (by decide) sa h_sa e_sa tp e_tp ⟨by omega, by omega⟩ a0 e_a0 ⟨by omega, by omega⟩ sc e_sc ⟨by omega, by omega⟩ (by show a0.toInt ≤ tp.toInt; first | assumption | omega | decide)) sV_X10_230 hK (t_recv cf_11 hK hT h_a) ⟨Nat.le_trans hZ hS.1, hT⟩ ⟨Nat.le_of_ble_eq_true rfl, Nat.le_of_ble_eq_true rfl⟩ rfl hl.1 rfl (Nat.le_of_ble_eq_true rfl) dX10_line_51 ⟨Nat.le_of_ble_eq_true rfl, Nat.le_of_ble_eq_true rfl⟩) hS (fun G_6 H locs hF_6 hr_6 hT hS => ?_)
    have hF := hF.tr hF_6 rfl
    have kx0 : ∀ j : Nat, j ≠ 4 → G_6.1 tha j = G.1 tha j := fun j hj => (hF_6.i h_tha (by decide) rfl j).trans (kx0 j hj)
    obtain ⟨hr_6_p0, hr_6_p1, hr_6_p2, hr_6_s0, hr_6_x0⟩ := hr_6
    have kx1 : ∀ j : Nat, j < 24 → G_6.1 sa j = G.1 sa j := fun j hj => (hr_6_x0 j hj).trans (kx1 j hj)
    have k_12 : tp = G_6.1 a 6 := e_tp.trans hr_6_s0.symm
    obtain ⟨z_13, z_14, ez_13, ez_14, hr_6_p0, hr_6_p1, hr_6_p2⟩ : ∃ z_13 z_14 : Int32, z_13 = G_6.1 a 7 ∧ z_14 = G_6.1 sa 25 ∧ (a0.toInt ≤ z_13.toInt) ∧ (z_13.toInt ≤ tp.toInt) ∧ (1 ≤ z_14.toInt) := ⟨_, _, rfl, rfl, hr_6_p0, hr_6_p1, hr_6_p2⟩
    have rz_13 : 0 ≤ z_13.toInt ∧ z_13.toInt ≤ 1600 := by rw [ez_13]; exact hT.rgi h_a (by decide) 7
    have qz_14 : (25 % 6 = 0 → 0 ≤ z_14.toInt ∧ z_14.toInt ≤ 9) ∧ (25 % 6 = 1 → 0 ≤ z_14.toInt ∧ z_14.toInt ≤ 50) ∧ (25 % 6 = 3 → 0 ≤ z_14.toInt ∧ z_14.toInt ≤ 50) := by rw [ez_14]; exact hT.rgi h_sa (by decide) 25
    have rz_14 : 0 ≤ z_14.toInt ∧ z_14.toInt ≤ 50 := by omega
    exact ret_v hx hb hr hlocks ⟨⟨hS.1, hS.2.1⟩, G_6, hF, ⟨rfl, ⟨(by first | (show a0.toInt ≤ (G_6.1 a 7).toInt; rw [← ez_13]; done) | (show a0.toInt ≤ (G_6.1 a 7).toInt; rw [← ez_13]; show a0.toInt ≤ z_13.toInt; first | omega | assumption)), (by first | (show (G_6.1 a 7).toInt ≤ tp.toInt; rw [← ez_13]; done) | (show (G_6.1 a 7).toInt ≤ tp.toInt; rw [← ez_13]; show z_13.toInt ≤ tp.toInt; first | omega | assumption)), (by first | (show 1 ≤ (G_6.1 sa 25).toInt; rw [← ez_14]; done) | (show 1 ≤ (G_6.1 sa 25).toInt; rw [← ez_14]; show 1 ≤ z_14.toInt; first | omega | assumption)), (k_12.symm.trans e_tp), kx0, kx1⟩⟩, hT⟩ hS.2.2 (Nat.le_of_ble_eq_true rfl) (Nat.le_of_ble_eq_true rfl) dX10_line_54
  · skip
    have er_3 := hr_3_1
    subst er_3
    refine W.eq (g2 := F0 m 7 ls [.int 0]) rfl ?_
    refine lv_if_eq (tgt := 14) hx hb dX10_line_7 (by decide) (fun _ => ?_) (fun c_15 => absurd (by decide) c_15)
    refine lv_aload_n hx hb dX10_line_14 rfl (lv_at hl 0 rfl) ?_
    refine lv_ldc2 (v := 8740364) hx hb hown (hts _ kl_X10_226) dX10_line_15 ?_
    refine pu_calli (runV (As := [.long 8740364]) (rest := []) ⟨hx, hb, hml, hown, hts⟩ (t_X10_is l D cy base τ G a h_a 8740364 z_1 ez_1 z_2 ez_2) sV_X10_169 hK (t_recv cf_11 hK hT h_a) ⟨Nat.le_trans hZ hS.1, hT⟩ ⟨Nat.le_of_ble_eq_true rfl, Nat.le_of_ble_eq_true rfl⟩ rfl hl.1 rfl (Nat.le_of_ble_eq_true rfl) dX10_line_18 ⟨Nat.le_of_ble_eq_true rfl, Nat.le_of_ble_eq_true rfl⟩) (fun r_16 hr_16 => ?_)
    have hr_16_c := hr_16
    rcases hr_16_c with hr_16_0 | hr_16_1
    · skip
      obtain ⟨er_16, hr_16_0_f0, hr_16_0_f1⟩ := hr_16_0
      have hr_16_0_f0 : z_1.toInt = 0 := hr_16_0_f0
      have hr_16_0_f1 : z_2.toInt = 1 := hr_16_0_f1
      subst er_16
      refine W.eq (g2 := F0 m 21 ls [.int 1]) rfl ?_
      refine lv_if_eq (tgt := 28) hx hb dX10_line_21 (by decide) (fun c_17 => absurd c_17 (by decide)) (fun _ => ?_)
      refine lv_iconst (v := 1) hx hb dX10_line_24 (by decide) ?_
      refine lv_goto (tgt := 43) hx hb dX10_line_25 (by decide) ?_
      refine lv_istore_n (lv' := [(1, .int 1), (0, .ref a)]) hx hb dX10_line_43 rfl hl (by decide) rfl (fun ls hl => ?_)
      refine lv_iload_n hx hb dX10_line_44 rfl (lv_at hl 0 rfl) ?_
      refine lv_iconst (v := (-1)) hx hb dX10_line_45 (by decide) ?_
      refine lv_icmp_eq (tgt := 55) hx hb dX10_line_46 (by decide) (fun c_18 => absurd c_18 (by decide)) (fun _ => ?_)
      refine lv_aload_n hx hb dX10_line_49 rfl (lv_at hl 1 rfl) ?_
      refine lv_iload_n hx hb dX10_line_50 rfl (lv_at hl 0 rfl) ?_
      refine t_callv (runV (As := [.int 1]) (rest := []) ⟨hx, hb, hml, hown, hts⟩ (t_X10_onceLine l D cy base τ G a h_a 1 (by decide) sa h_sa e_sa tp e_tp ⟨by omega, by omega⟩ a0 e_a0 ⟨by omega, by omega⟩ sc e_sc ⟨by omega, by omega⟩ (by show a0.toInt ≤ tp.toInt; first | assumption | omega | decide)) sV_X10_230 hK (t_recv cf_11 hK hT h_a) ⟨Nat.le_trans hZ hS.1, hT⟩ ⟨Nat.le_of_ble_eq_true rfl, Nat.le_of_ble_eq_true rfl⟩ rfl hl.1 rfl (Nat.le_of_ble_eq_true rfl) dX10_line_51 ⟨Nat.le_of_ble_eq_true rfl, Nat.le_of_ble_eq_true rfl⟩) hS (fun G_19 H locs hF_19 hr_19 hT hS => ?_)
      have hF := hF.tr hF_19 rfl
      have kx0 : ∀ j : Nat, j ≠ 4 → G_19.1 tha j = G.1 tha j := fun j hj => (hF_19.i h_tha (by decide) rfl j).trans (kx0 j hj)
      obtain ⟨hr_19_p0, hr_19_p1, hr_19_p2, hr_19_s0, hr_19_x0⟩ := hr_19
      have kx1 : ∀ j : Nat, j < 24 → G_19.1 sa j = G.1 sa j := fun j hj => (hr_19_x0 j hj).trans (kx1 j hj)
      have k_25 : tp = G_19.1 a 6 := e_tp.trans hr_19_s0.symm
      obtain ⟨z_26, z_27, ez_26, ez_27, hr_19_p0, hr_19_p1, hr_19_p2⟩ : ∃ z_26 z_27 : Int32, z_26 = G_19.1 a 7 ∧ z_27 = G_19.1 sa 25 ∧ (a0.toInt ≤ z_26.toInt) ∧ (z_26.toInt ≤ tp.toInt) ∧ (1 ≤ z_27.toInt) := ⟨_, _, rfl, rfl, hr_19_p0, hr_19_p1, hr_19_p2⟩
      have rz_26 : 0 ≤ z_26.toInt ∧ z_26.toInt ≤ 1600 := by rw [ez_26]; exact hT.rgi h_a (by decide) 7
      have qz_27 : (25 % 6 = 0 → 0 ≤ z_27.toInt ∧ z_27.toInt ≤ 9) ∧ (25 % 6 = 1 → 0 ≤ z_27.toInt ∧ z_27.toInt ≤ 50) ∧ (25 % 6 = 3 → 0 ≤ z_27.toInt ∧ z_27.toInt ≤ 50) := by rw [ez_27]; exact hT.rgi h_sa (by decide) 25
      have rz_27 : 0 ≤ z_27.toInt ∧ z_27.toInt ≤ 50 := by omega
      exact ret_v hx hb hr hlocks ⟨⟨hS.1, hS.2.1⟩, G_19, hF, ⟨rfl, ⟨(by first | (show a0.toInt ≤ (G_19.1 a 7).toInt; rw [← ez_26]; done) | (show a0.toInt ≤ (G_19.1 a 7).toInt; rw [← ez_26]; show a0.toInt ≤ z_26.toInt; first | omega | assumption)), (by first | (show (G_19.1 a 7).toInt ≤ tp.toInt; rw [← ez_26]; done) | (show (G_19.1 a 7).toInt ≤ tp.toInt; rw [← ez_26]; show z_26.toInt ≤ tp.toInt; first | omega | assumption)), (by first | (show 1 ≤ (G_19.1 sa 25).toInt; rw [← ez_27]; done) | (show 1 ≤ (G_19.1 sa 25).toInt; rw [← ez_27]; show 1 ≤ z_27.toInt; first | omega | assumption)), (k_25.symm.trans e_tp), kx0, kx1⟩⟩, hT⟩ hS.2.2 (Nat.le_of_ble_eq_true rfl) (Nat.le_of_ble_eq_true rfl) dX10_line_54
    · skip
      have er_16 := hr_16_1
      subst er_16
      refine W.eq (g2 := F0 m 21 ls [.int 0]) rfl ?_
      refine lv_if_eq (tgt := 28) hx hb dX10_line_21 (by decide) (fun _ => ?_) (fun c_28 => absurd (by decide) c_28)
      refine lv_aload_n hx hb dX10_line_28 rfl (lv_at hl 0 rfl) ?_
      refine lv_ldc2 (v := 271517) hx hb hown (hts _ kl_X10_228) dX10_line_29 ?_
      refine pu_calli (runV (As := [.long 271517]) (rest := []) ⟨hx, hb, hml, hown, hts⟩ (t_X10_is l D cy base τ G a h_a 271517 z_1 ez_1 z_2 ez_2) sV_X10_169 hK (t_recv cf_11 hK hT h_a) ⟨Nat.le_trans hZ hS.1, hT⟩ ⟨Nat.le_of_ble_eq_true rfl, Nat.le_of_ble_eq_true rfl⟩ rfl hl.1 rfl (Nat.le_of_ble_eq_true rfl) dX10_line_32 ⟨Nat.le_of_ble_eq_true rfl, Nat.le_of_ble_eq_true rfl⟩) (fun r_29 hr_29 => ?_)
      have hr_29_c := hr_29
      rcases hr_29_c with hr_29_0 | hr_29_1
      · skip
        obtain ⟨er_29, hr_29_0_f0, hr_29_0_f1⟩ := hr_29_0
        have hr_29_0_f0 : z_1.toInt = 0 := hr_29_0_f0
        have hr_29_0_f1 : z_2.toInt = 1 := hr_29_0_f1
        subst er_29
        refine W.eq (g2 := F0 m 35 ls [.int 1]) rfl ?_
        refine lv_if_eq (tgt := 42) hx hb dX10_line_35 (by decide) (fun c_30 => absurd c_30 (by decide)) (fun _ => ?_)
        refine lv_iconst (v := 2) hx hb dX10_line_38 (by decide) ?_
        refine lv_goto (tgt := 43) hx hb dX10_line_39 (by decide) ?_
        refine lv_istore_n (lv' := [(1, .int 2), (0, .ref a)]) hx hb dX10_line_43 rfl hl (by decide) rfl (fun ls hl => ?_)
        refine lv_iload_n hx hb dX10_line_44 rfl (lv_at hl 0 rfl) ?_
        refine lv_iconst (v := (-1)) hx hb dX10_line_45 (by decide) ?_
        refine lv_icmp_eq (tgt := 55) hx hb dX10_line_46 (by decide) (fun c_31 => absurd c_31 (by decide)) (fun _ => ?_)
        refine lv_aload_n hx hb dX10_line_49 rfl (lv_at hl 1 rfl) ?_
        refine lv_iload_n hx hb dX10_line_50 rfl (lv_at hl 0 rfl) ?_
        refine t_callv (runV (As := [.int 2]) (rest := []) ⟨hx, hb, hml, hown, hts⟩ (t_X10_onceLine l D cy base τ G a h_a 2 (by decide) sa h_sa e_sa tp e_tp ⟨by omega, by omega⟩ a0 e_a0 ⟨by omega, by omega⟩ sc e_sc ⟨by omega, by omega⟩ (by show a0.toInt ≤ tp.toInt; first | assumption | omega | decide)) sV_X10_230 hK (t_recv cf_11 hK hT h_a) ⟨Nat.le_trans hZ hS.1, hT⟩ ⟨Nat.le_of_ble_eq_true rfl, Nat.le_of_ble_eq_true rfl⟩ rfl hl.1 rfl (Nat.le_of_ble_eq_true rfl) dX10_line_51 ⟨Nat.le_of_ble_eq_true rfl, Nat.le_of_ble_eq_true rfl⟩) hS (fun G_32 H locs hF_32 hr_32 hT hS => ?_)
        have hF := hF.tr hF_32 rfl
        have kx0 : ∀ j : Nat, j ≠ 4 → G_32.1 tha j = G.1 tha j := fun j hj => (hF_32.i h_tha (by decide) rfl j).trans (kx0 j hj)
        obtain ⟨hr_32_p0, hr_32_p1, hr_32_p2, hr_32_s0, hr_32_x0⟩ := hr_32
        have kx1 : ∀ j : Nat, j < 24 → G_32.1 sa j = G.1 sa j := fun j hj => (hr_32_x0 j hj).trans (kx1 j hj)
        have k_38 : tp = G_32.1 a 6 := e_tp.trans hr_32_s0.symm
        obtain ⟨z_39, z_40, ez_39, ez_40, hr_32_p0, hr_32_p1, hr_32_p2⟩ : ∃ z_39 z_40 : Int32, z_39 = G_32.1 a 7 ∧ z_40 = G_32.1 sa 25 ∧ (a0.toInt ≤ z_39.toInt) ∧ (z_39.toInt ≤ tp.toInt) ∧ (1 ≤ z_40.toInt) := ⟨_, _, rfl, rfl, hr_32_p0, hr_32_p1, hr_32_p2⟩
        have rz_39 : 0 ≤ z_39.toInt ∧ z_39.toInt ≤ 1600 := by rw [ez_39]; exact hT.rgi h_a (by decide) 7
        have qz_40 : (25 % 6 = 0 → 0 ≤ z_40.toInt ∧ z_40.toInt ≤ 9) ∧ (25 % 6 = 1 → 0 ≤ z_40.toInt ∧ z_40.toInt ≤ 50) ∧ (25 % 6 = 3 → 0 ≤ z_40.toInt ∧ z_40.toInt ≤ 50) := by rw [ez_40]; exact hT.rgi h_sa (by decide) 25
        have rz_40 : 0 ≤ z_40.toInt ∧ z_40.toInt ≤ 50 := by omega
        exact ret_v hx hb hr hlocks ⟨⟨hS.1, hS.2.1⟩, G_32, hF, ⟨rfl, ⟨(by first | (show a0.toInt ≤ (G_32.1 a 7).toInt; rw [← ez_39]; done) | (show a0.toInt ≤ (G_32.1 a 7).toInt; rw [← ez_39]; show a0.toInt ≤ z_39.toInt; first | omega | assumption)), (by first | (show (G_32.1 a 7).toInt ≤ tp.toInt; rw [← ez_39]; done) | (show (G_32.1 a 7).toInt ≤ tp.toInt; rw [← ez_39]; show z_39.toInt ≤ tp.toInt; first | omega | assumption)), (by first | (show 1 ≤ (G_32.1 sa 25).toInt; rw [← ez_40]; done) | (show 1 ≤ (G_32.1 sa 25).toInt; rw [← ez_40]; show 1 ≤ z_40.toInt; first | omega | assumption)), (k_38.symm.trans e_tp), kx0, kx1⟩⟩, hT⟩ hS.2.2 (Nat.le_of_ble_eq_true rfl) (Nat.le_of_ble_eq_true rfl) dX10_line_54
      · skip
        have er_29 := hr_29_1
        subst er_29
        refine W.eq (g2 := F0 m 35 ls [.int 0]) rfl ?_
        refine lv_if_eq (tgt := 42) hx hb dX10_line_35 (by decide) (fun _ => ?_) (fun c_41 => absurd (by decide) c_41)
        refine lv_iconst (v := (-1)) hx hb dX10_line_42 (by decide) ?_
        refine lv_istore_n (lv' := [(1, .int (-1)), (0, .ref a)]) hx hb dX10_line_43 rfl hl (by decide) rfl (fun ls hl => ?_)
        refine lv_iload_n hx hb dX10_line_44 rfl (lv_at hl 0 rfl) ?_
        refine lv_iconst (v := (-1)) hx hb dX10_line_45 (by decide) ?_
        refine lv_icmp_eq (tgt := 55) hx hb dX10_line_46 (by decide) (fun _ => ?_) (fun c_42 => absurd (by decide) c_42)
        refine lv_aload_n hx hb dX10_line_55 rfl (lv_at hl 1 rfl) ?_
        refine lv_ldc2 (v := 10793230) hx hb hown (hts _ kl_X10_233) dX10_line_56 ?_
        refine pu_calli (runV (As := [.long 10793230]) (rest := []) ⟨hx, hb, hml, hown, hts⟩ (t_X10_is l D cy base τ G a h_a 10793230 z_1 ez_1 z_2 ez_2) sV_X10_169 hK (t_recv cf_11 hK hT h_a) ⟨Nat.le_trans hZ hS.1, hT⟩ ⟨Nat.le_of_ble_eq_true rfl, Nat.le_of_ble_eq_true rfl⟩ rfl hl.1 rfl (Nat.le_of_ble_eq_true rfl) dX10_line_59 ⟨Nat.le_of_ble_eq_true rfl, Nat.le_of_ble_eq_true rfl⟩) (fun r_43 hr_43 => ?_)
        have hr_43_c := hr_43
        rcases hr_43_c with hr_43_0 | hr_43_1
        · skip
          obtain ⟨er_43, hr_43_0_f0, hr_43_0_f1⟩ := hr_43_0
          have hr_43_0_f0 : z_1.toInt = 0 := hr_43_0_f0
          have hr_43_0_f1 : z_2.toInt = 1 := hr_43_0_f1
          subst er_43
          refine W.eq (g2 := F0 m 62 ls [.int 1]) rfl ?_
          refine lv_istore_n (lv' := [(2, .int 1), (1, .int (-1)), (0, .ref a)]) hx hb dX10_line_62 rfl hl (by decide) rfl (fun ls hl => ?_)
          refine lv_aload_n hx hb dX10_line_63 rfl (lv_at hl 2 rfl) ?_
          refine lv_ldc2 (v := 316452499) hx hb hown (hts _ kl_X10_235) dX10_line_64 ?_
          refine pu_calli (runV (As := [.long 316452499]) (rest := []) ⟨hx, hb, hml, hown, hts⟩ (t_X10_is l D cy base τ G a h_a 316452499 z_1 ez_1 z_2 ez_2) sV_X10_169 hK (t_recv cf_11 hK hT h_a) ⟨Nat.le_trans hZ hS.1, hT⟩ ⟨Nat.le_of_ble_eq_true rfl, Nat.le_of_ble_eq_true rfl⟩ rfl hl.1 rfl (Nat.le_of_ble_eq_true rfl) dX10_line_67 ⟨Nat.le_of_ble_eq_true rfl, Nat.le_of_ble_eq_true rfl⟩) (fun r_44 hr_44 => ?_)
          have hr_44_c := hr_44
          rcases hr_44_c with hr_44_0 | hr_44_1
          · skip
            obtain ⟨er_44, hr_44_0_f0, hr_44_0_f1⟩ := hr_44_0
            have hr_44_0_f0 : z_1.toInt = 0 := hr_44_0_f0
            have hr_44_0_f1 : z_2.toInt = 1 := hr_44_0_f1
            subst er_44
            refine W.eq (g2 := F0 m 70 ls [.int 1]) rfl ?_
            refine lv_istore_n (lv' := [(3, .int 1), (2, .int 1), (1, .int (-1)), (0, .ref a)]) hx hb dX10_line_70 rfl hl (by decide) rfl (fun ls hl => ?_)
            refine lv_iload_n hx hb dX10_line_71 rfl (lv_at hl 1 rfl) ?_
            refine lv_if_ne (tgt := 94) hx hb dX10_line_72 (by decide) (fun _ => ?_) (fun c_45 => absurd c_45 (by decide))
            refine lv_iload_n hx hb dX10_line_94 rfl (lv_at hl 1 rfl) ?_
            refine lv_if_eq (tgt := 111) hx hb dX10_line_95 (by decide) (fun c_46 => absurd c_46 (by decide)) (fun _ => ?_)
            refine lv_aload_n hx hb dX10_line_98 rfl (lv_at hl 3 rfl) ?_
            refine t_getr cf_11 hx hb hts hown hK hT h_a (k := 18) (P := fun q => τ q = 68) rfl (fun _ h9 => h9) fl_X10_37 (fun _ h9 => h9) dX10_line_99 (fun q_47 eq_47 hq_47 => ?_)
            have w_48 : tha = q_47 := Option.some.inj (e_tha.symm.trans eq_47)
            subst w_48
            refine lv_iconst (v := 4) hx hb dX10_line_102 (by decide) ?_
            refine t_iald (n := 5) (i := 4) rfl (by decide) hx hb hK hT h_tha (hT.len h_tha (by decide)) ⟨by decide, by decide⟩ dX10_line_103 (fun z_49 ez_49 rz_49 => ?_)
            have ez_49 : z_49 = G.1 tha 4 := ez_49
            have rz_49 : 0 ≤ z_49.toInt ∧ z_49.toInt ≤ 3 := rz_49
            refine lv_iconst (v := 3) hx hb dX10_line_104 (by decide) ?_
            refine lv_icmp_ne (tgt := 145) hx hb dX10_line_105 (by decide) (fun c_50 => ?_) (fun c_50 => ?_)
            · skip
              have tc_50 : ¬ z_49.toInt = 3 := fun h => c_50 ((fa_eq _ _).mpr h)
              refine lv_aload_n hx hb dX10_line_145 rfl (lv_at hl 3 rfl) ?_
              refine t_geti cf_11 hx hb hts hown hK hT h_a (k := 12) rfl fl_X10_163 (fun _ h9 => h9) dX10_line_146 (fun z_51 ez_51 rz_51 => ?_)
              have w_52 : z_1 = z_51 := ez_1.trans ez_51.symm
              subst w_52
              refine lv_if_eq (tgt := 153) hx hb dX10_line_149 (by decide) (fun c_53 => ?_) (fun c_53 => ?_)
              · skip
                have tc_53 : z_1.toInt = 0 := (fa_eq _ _).mp c_53
                refine lv_aload_n hx hb dX10_line_153 rfl (lv_at hl 3 rfl) ?_
                obtain ⟨q_54, eq_54, hq_54⟩ := (show ∃ q, G.2.2.1 a 5 = some q ∧ τ q = 55 from hT.rgr h_a (by decide) 5)
                refine t_callv (runV (As := []) (rest := []) ⟨hx, hb, hml, hown, hts⟩ (t_X10_next l D cy base τ G a h_a q_54 hq_54 eq_54 tp e_tp ⟨by omega, by omega⟩ a0 e_a0 ⟨by omega, by omega⟩ z_1 ez_1 (by show a0.toInt ≤ tp.toInt; first | assumption | omega | decide)) sV_X10_173 hK (t_recv cf_11 hK hT h_a) ⟨Nat.le_trans hZ hS.1, hT⟩ ⟨Nat.le_of_ble_eq_true rfl, Nat.le_of_ble_eq_true rfl⟩ rfl hl.1 rfl (Nat.le_of_ble_eq_true rfl) dX10_line_154 ⟨Nat.le_of_ble_eq_true rfl, Nat.le_of_ble_eq_true rfl⟩) hS (fun G_55 H locs hF_55 hr_55 hT hS => ?_)
                have hF := hF.tr hF_55 rfl
                have kx0 : ∀ j : Nat, j ≠ 4 → G_55.1 tha j = G.1 tha j := fun j hj => (hF_55.i h_tha (by decide) rfl j).trans (kx0 j hj)
                have kx1 : ∀ j : Nat, j < 24 → G_55.1 sa j = G.1 sa j := fun j hj => (hF_55.i h_sa (by decide) rfl j).trans (kx1 j hj)
                have k_58 : sc = G_55.1 sa 25 := e_sc.trans (hF_55.i h_sa (by decide) rfl _).symm
                have k_61 : z_49 = G_55.1 tha 4 := ez_49.trans (hF_55.i h_tha (by decide) rfl _).symm
                obtain ⟨hr_55_p0, hr_55_p1, hr_55_p2, hr_55_s0, hr_55_s1⟩ := hr_55
                have k_62 : tp = G_55.1 a 6 := e_tp.trans hr_55_s0.symm
                have k_63 : z_1 = G_55.1 a 12 := ez_1.trans hr_55_s1.symm
                obtain ⟨z_64, z_65, ez_64, ez_65, hr_55_p0, hr_55_p1, hr_55_p2⟩ : ∃ z_64 z_65 : Int32, z_64 = G_55.1 a 7 ∧ z_65 = G_55.1 a 8 ∧ (a0.toInt ≤ z_64.toInt) ∧ (z_64.toInt ≤ tp.toInt) ∧ (z_65.toInt = 0 ∨ a0.toInt < z_64.toInt) := ⟨_, _, rfl, rfl, hr_55_p0, hr_55_p1, hr_55_p2⟩
                have rz_64 : 0 ≤ z_64.toInt ∧ z_64.toInt ≤ 1600 := by rw [ez_64]; exact hT.rgi h_a (by decide) 7
                refine lv_iload_n hx hb dX10_line_157 rfl (lv_at hl 1 rfl) ?_
                refine lv_if_eq (tgt := 168) hx hb dX10_line_158 (by decide) (fun c_66 => absurd c_66 (by decide)) (fun _ => ?_)
                refine lv_aload_n hx hb dX10_line_161 rfl (lv_at hl 3 rfl) ?_
                refine t_callv (runV (As := []) (rest := []) ⟨hx, hb, hml, hown, hts⟩ (t_X10_thingLine l D cy base τ G_55 a h_a tha h_tha ((hF.r h_a (by decide) rfl _).trans e_tha) tp k_62 ⟨by omega, by omega⟩ z_64 ez_64 ⟨by omega, by omega⟩ z_49 k_61 ⟨by omega, by omega⟩ (by show z_64.toInt ≤ tp.toInt; first | assumption | omega | decide)) sV_X10_239 hK (t_recv cf_11 hK hT h_a) ⟨Nat.le_trans hZ hS.1, hT⟩ ⟨Nat.le_of_ble_eq_true rfl, Nat.le_of_ble_eq_true rfl⟩ rfl hl.1 rfl (Nat.le_of_ble_eq_true rfl) dX10_line_162 ⟨Nat.le_of_ble_eq_true rfl, Nat.le_of_ble_eq_true rfl⟩) hS (fun G_67 H locs hF_67 hr_67 hT hS => ?_)
                have hF := hF.tr hF_67 rfl
                have kx1 : ∀ j : Nat, j < 24 → G_67.1 sa j = G.1 sa j := fun j hj => (hF_67.i h_sa (by decide) rfl j).trans (kx1 j hj)
                have k_68 : sc = G_67.1 sa 25 := k_58.trans (hF_67.i h_sa (by decide) rfl _).symm
                obtain ⟨hr_67_p0, hr_67_p1, hr_67_s0, hr_67_x0⟩ := hr_67
                have kx0 : ∀ j : Nat, j ≠ 4 → G_67.1 tha j = G.1 tha j := fun j hj => (hr_67_x0 j hj).trans (kx0 j hj)
                have k_74 : tp = G_67.1 a 6 := k_62.trans hr_67_s0.symm
                obtain ⟨z_75, ez_75, hr_67_p0, hr_67_p1⟩ : ∃ z_75 : Int32, z_75 = G_67.1 a 7 ∧ (z_64.toInt ≤ z_75.toInt) ∧ (z_75.toInt ≤ tp.toInt) := ⟨_, rfl, hr_67_p0, hr_67_p1⟩
                have rz_75 : 0 ≤ z_75.toInt ∧ z_75.toInt ≤ 1600 := by rw [ez_75]; exact hT.rgi h_a (by decide) 7
                refine lv_goto (tgt := 183) hx hb dX10_line_165 (by decide) ?_
                exact ret_v hx hb hr hlocks ⟨⟨hS.1, hS.2.1⟩, G_67, hF, ⟨rfl, ⟨(by first | (show a0.toInt ≤ (G_67.1 a 7).toInt; rw [← ez_75]; done) | (show a0.toInt ≤ (G_67.1 a 7).toInt; rw [← ez_75]; show a0.toInt ≤ z_75.toInt; first | omega | assumption)), (by first | (show (G_67.1 a 7).toInt ≤ tp.toInt; rw [← ez_75]; done) | (show (G_67.1 a 7).toInt ≤ tp.toInt; rw [← ez_75]; show z_75.toInt ≤ tp.toInt; first | omega | assumption)), (by first | (show 1 ≤ (G_67.1 sa 25).toInt; rw [← k_68]; done) | (show 1 ≤ (G_67.1 sa 25).toInt; rw [← k_68]; show 1 ≤ sc.toInt; first | omega | assumption)), (k_74.symm.trans e_tp), kx0, kx1⟩⟩, hT⟩ hS.2.2 (Nat.le_of_ble_eq_true rfl) (Nat.le_of_ble_eq_true rfl) dX10_line_183
              · skip
                have tc_53 : ¬ z_1.toInt = 0 := fun h => c_53 ((fa_eq _ _).mpr h)
                exfalso; omega
            · skip
              have tc_50 : z_49.toInt = 3 := (fa_eq _ _).mp c_50
              refine lv_goto (tgt := 140) hx hb dX10_line_108 (by decide) ?_
              refine lv_aload_n hx hb dX10_line_140 rfl (lv_at hl 3 rfl) ?_
              refine lv_iconst (v := 3) hx hb dX10_line_141 (by decide) ?_
              refine t_callv (runV (As := [.int 3]) (rest := []) ⟨hx, hb, hml, hown, hts⟩ (t_X10_fails l D cy base τ G a h_a 3 (by decide) tp e_tp ⟨by omega, by omega⟩ a0 e_a0 ⟨by omega, by omega⟩ z_2 ez_2 z_1 ez_1) sV_X10_179 hK (t_recv cf_11 hK hT h_a) ⟨Nat.le_trans hZ hS.1, hT⟩ ⟨Nat.le_of_ble_eq_true rfl, Nat.le_of_ble_eq_true rfl⟩ rfl hl.1 rfl (Nat.le_of_ble_eq_true rfl) dX10_line_142 ⟨Nat.le_of_ble_eq_true rfl, Nat.le_of_ble_eq_true rfl⟩) hS (fun G_76 H locs hF_76 hr_76 hT hS => ?_)
              have hF := hF.tr hF_76 rfl
              have kx0 : ∀ j : Nat, j ≠ 4 → G_76.1 tha j = G.1 tha j := fun j hj => (hF_76.i h_tha (by decide) rfl j).trans (kx0 j hj)
              have kx1 : ∀ j : Nat, j < 24 → G_76.1 sa j = G.1 sa j := fun j hj => (hF_76.i h_sa (by decide) rfl j).trans (kx1 j hj)
              have k_79 : sc = G_76.1 sa 25 := e_sc.trans (hF_76.i h_sa (by decide) rfl _).symm
              have k_82 : z_49 = G_76.1 tha 4 := ez_49.trans (hF_76.i h_tha (by decide) rfl _).symm
              obtain ⟨hr_76_p0, hr_76_s0, hr_76_s1, hr_76_s2⟩ := hr_76
              have k_83 : tp = G_76.1 a 6 := e_tp.trans hr_76_s0.symm
              have k_84 : a0 = G_76.1 a 7 := e_a0.trans hr_76_s1.symm
              have k_85 : z_2 = G_76.1 a 8 := ez_2.trans hr_76_s2.symm
              obtain ⟨z_86, ez_86, hr_76_p0⟩ : ∃ z_86 : Int32, z_86 = G_76.1 a 12 ∧ (z_86.toInt ≠ 0) := ⟨_, rfl, hr_76_p0⟩
              refine lv_aload_n hx hb dX10_line_145 rfl (lv_at hl 3 rfl) ?_
              refine t_geti cf_11 hx hb hts hown hK hT h_a (k := 12) rfl fl_X10_163 (fun _ h9 => h9) dX10_line_146 (fun z_87 ez_87 rz_87 => ?_)
              have w_88 : z_86 = z_87 := ez_86.trans ez_87.symm
              subst w_88
              refine lv_if_eq (tgt := 153) hx hb dX10_line_149 (by decide) (fun c_89 => ?_) (fun c_89 => ?_)
              · skip
                have tc_89 : z_86.toInt = 0 := (fa_eq _ _).mp c_89
                refine lv_aload_n hx hb dX10_line_153 rfl (lv_at hl 3 rfl) ?_
                obtain ⟨q_90, eq_90, hq_90⟩ := (show ∃ q, G_76.2.2.1 a 5 = some q ∧ τ q = 55 from hT.rgr h_a (by decide) 5)
                have eq_90 := (hF.r h_a (by decide) rfl _).symm.trans eq_90
                refine t_callv (runV (As := []) (rest := []) ⟨hx, hb, hml, hown, hts⟩ (t_X10_next l D cy base τ G_76 a h_a q_90 hq_90 ((hF.r h_a (by decide) rfl _).trans eq_90) tp k_83 ⟨by omega, by omega⟩ a0 k_84 ⟨by omega, by omega⟩ z_86 ez_86 (by show a0.toInt ≤ tp.toInt; first | assumption | omega | decide)) sV_X10_173 hK (t_recv cf_11 hK hT h_a) ⟨Nat.le_trans hZ hS.1, hT⟩ ⟨Nat.le_of_ble_eq_true rfl, Nat.le_of_ble_eq_true rfl⟩ rfl hl.1 rfl (Nat.le_of_ble_eq_true rfl) dX10_line_154 ⟨Nat.le_of_ble_eq_true rfl, Nat.le_of_ble_eq_true rfl⟩) hS (fun G_91 H locs hF_91 hr_91 hT hS => ?_)
                have hF := hF.tr hF_91 rfl
                have kx0 : ∀ j : Nat, j ≠ 4 → G_91.1 tha j = G.1 tha j := fun j hj => (hF_91.i h_tha (by decide) rfl j).trans (kx0 j hj)
                have kx1 : ∀ j : Nat, j < 24 → G_91.1 sa j = G.1 sa j := fun j hj => (hF_91.i h_sa (by decide) rfl j).trans (kx1 j hj)
                have k_92 : sc = G_91.1 sa 25 := k_79.trans (hF_91.i h_sa (by decide) rfl _).symm
                have k_93 : z_49 = G_91.1 tha 4 := k_82.trans (hF_91.i h_tha (by decide) rfl _).symm
                obtain ⟨hr_91_p0, hr_91_p1, hr_91_p2, hr_91_s0, hr_91_s1⟩ := hr_91
                have k_98 : tp = G_91.1 a 6 := k_83.trans hr_91_s0.symm
                have k_99 : z_86 = G_91.1 a 12 := ez_86.trans hr_91_s1.symm
                obtain ⟨z_100, z_101, ez_100, ez_101, hr_91_p0, hr_91_p1, hr_91_p2⟩ : ∃ z_100 z_101 : Int32, z_100 = G_91.1 a 7 ∧ z_101 = G_91.1 a 8 ∧ (a0.toInt ≤ z_100.toInt) ∧ (z_100.toInt ≤ tp.toInt) ∧ (z_101.toInt = 0 ∨ a0.toInt < z_100.toInt) := ⟨_, _, rfl, rfl, hr_91_p0, hr_91_p1, hr_91_p2⟩
                have rz_100 : 0 ≤ z_100.toInt ∧ z_100.toInt ≤ 1600 := by rw [ez_100]; exact hT.rgi h_a (by decide) 7
                refine lv_iload_n hx hb dX10_line_157 rfl (lv_at hl 1 rfl) ?_
                refine lv_if_eq (tgt := 168) hx hb dX10_line_158 (by decide) (fun c_102 => absurd c_102 (by decide)) (fun _ => ?_)
                refine lv_aload_n hx hb dX10_line_161 rfl (lv_at hl 3 rfl) ?_
                refine t_callv (runV (As := []) (rest := []) ⟨hx, hb, hml, hown, hts⟩ (t_X10_thingLine l D cy base τ G_91 a h_a tha h_tha ((hF.r h_a (by decide) rfl _).trans e_tha) tp k_98 ⟨by omega, by omega⟩ z_100 ez_100 ⟨by omega, by omega⟩ z_49 k_93 ⟨by omega, by omega⟩ (by show z_100.toInt ≤ tp.toInt; first | assumption | omega | decide)) sV_X10_239 hK (t_recv cf_11 hK hT h_a) ⟨Nat.le_trans hZ hS.1, hT⟩ ⟨Nat.le_of_ble_eq_true rfl, Nat.le_of_ble_eq_true rfl⟩ rfl hl.1 rfl (Nat.le_of_ble_eq_true rfl) dX10_line_162 ⟨Nat.le_of_ble_eq_true rfl, Nat.le_of_ble_eq_true rfl⟩) hS (fun G_103 H locs hF_103 hr_103 hT hS => ?_)
                have hF := hF.tr hF_103 rfl
                have kx1 : ∀ j : Nat, j < 24 → G_103.1 sa j = G.1 sa j := fun j hj => (hF_103.i h_sa (by decide) rfl j).trans (kx1 j hj)
                have k_104 : sc = G_103.1 sa 25 := k_92.trans (hF_103.i h_sa (by decide) rfl _).symm
                obtain ⟨hr_103_p0, hr_103_p1, hr_103_s0, hr_103_x0⟩ := hr_103
                have kx0 : ∀ j : Nat, j ≠ 4 → G_103.1 tha j = G.1 tha j := fun j hj => (hr_103_x0 j hj).trans (kx0 j hj)
                have k_110 : tp = G_103.1 a 6 := k_98.trans hr_103_s0.symm
                obtain ⟨z_111, ez_111, hr_103_p0, hr_103_p1⟩ : ∃ z_111 : Int32, z_111 = G_103.1 a 7 ∧ (z_100.toInt ≤ z_111.toInt) ∧ (z_111.toInt ≤ tp.toInt) := ⟨_, rfl, hr_103_p0, hr_103_p1⟩
                have rz_111 : 0 ≤ z_111.toInt ∧ z_111.toInt ≤ 1600 := by rw [ez_111]; exact hT.rgi h_a (by decide) 7
                refine lv_goto (tgt := 183) hx hb dX10_line_165 (by decide) ?_
                exact ret_v hx hb hr hlocks ⟨⟨hS.1, hS.2.1⟩, G_103, hF, ⟨rfl, ⟨(by first | (show a0.toInt ≤ (G_103.1 a 7).toInt; rw [← ez_111]; done) | (show a0.toInt ≤ (G_103.1 a 7).toInt; rw [← ez_111]; show a0.toInt ≤ z_111.toInt; first | omega | assumption)), (by first | (show (G_103.1 a 7).toInt ≤ tp.toInt; rw [← ez_111]; done) | (show (G_103.1 a 7).toInt ≤ tp.toInt; rw [← ez_111]; show z_111.toInt ≤ tp.toInt; first | omega | assumption)), (by first | (show 1 ≤ (G_103.1 sa 25).toInt; rw [← k_104]; done) | (show 1 ≤ (G_103.1 sa 25).toInt; rw [← k_104]; show 1 ≤ sc.toInt; first | omega | assumption)), (k_110.symm.trans e_tp), kx0, kx1⟩⟩, hT⟩ hS.2.2 (Nat.le_of_ble_eq_true rfl) (Nat.le_of_ble_eq_true rfl) dX10_line_183
              · skip
                have tc_89 : ¬ z_86.toInt = 0 := fun h => c_89 ((fa_eq _ _).mpr h)
                exact ret_v hx hb hr hlocks ⟨⟨hS.1, hS.2.1⟩, G_76, hF, ⟨rfl, ⟨(by first | (show a0.toInt ≤ (G_76.1 a 7).toInt; rw [← k_84]; done) | (show a0.toInt ≤ (G_76.1 a 7).toInt; rw [← k_84]; show a0.toInt ≤ a0.toInt; first | omega | assumption)), (by first | (show (G_76.1 a 7).toInt ≤ tp.toInt; rw [← k_84]; done) | (show (G_76.1 a 7).toInt ≤ tp.toInt; rw [← k_84]; show a0.toInt ≤ tp.toInt; first | omega | assumption)), (by first | (show 1 ≤ (G_76.1 sa 25).toInt; rw [← k_79]; done) | (show 1 ≤ (G_76.1 sa 25).toInt; rw [← k_79]; show 1 ≤ sc.toInt; first | omega | assumption)), (k_83.symm.trans e_tp), kx0, kx1⟩⟩, hT⟩ hS.2.2 (Nat.le_of_ble_eq_true rfl) (Nat.le_of_ble_eq_true rfl) dX10_line_152
          · skip
            have er_44 := hr_44_1
            subst er_44
            refine W.eq (g2 := F0 m 70 ls [.int 0]) rfl ?_
            refine lv_istore_n (lv' := [(3, .int 0), (2, .int 1), (1, .int (-1)), (0, .ref a)]) hx hb dX10_line_70 rfl hl (by decide) rfl (fun ls hl => ?_)
            refine lv_iload_n hx hb dX10_line_71 rfl (lv_at hl 1 rfl) ?_
            refine lv_if_ne (tgt := 94) hx hb dX10_line_72 (by decide) (fun _ => ?_) (fun c_112 => absurd c_112 (by decide))
            refine lv_iload_n hx hb dX10_line_94 rfl (lv_at hl 1 rfl) ?_
            refine lv_if_eq (tgt := 111) hx hb dX10_line_95 (by decide) (fun c_113 => absurd c_113 (by decide)) (fun _ => ?_)
            refine lv_aload_n hx hb dX10_line_98 rfl (lv_at hl 3 rfl) ?_
            refine t_getr cf_11 hx hb hts hown hK hT h_a (k := 18) (P := fun q => τ q = 68) rfl (fun _ h9 => h9) fl_X10_37 (fun _ h9 => h9) dX10_line_99 (fun q_114 eq_114 hq_114 => ?_)
            have w_115 : tha = q_114 := Option.some.inj (e_tha.symm.trans eq_114)
            subst w_115
            refine lv_iconst (v := 4) hx hb dX10_line_102 (by decide) ?_
            refine t_iald (n := 5) (i := 4) rfl (by decide) hx hb hK hT h_tha (hT.len h_tha (by decide)) ⟨by decide, by decide⟩ dX10_line_103 (fun z_116 ez_116 rz_116 => ?_)
            have ez_116 : z_116 = G.1 tha 4 := ez_116
            have rz_116 : 0 ≤ z_116.toInt ∧ z_116.toInt ≤ 3 := rz_116
            refine lv_iconst (v := 3) hx hb dX10_line_104 (by decide) ?_
            refine lv_icmp_ne (tgt := 145) hx hb dX10_line_105 (by decide) (fun c_117 => ?_) (fun c_117 => ?_)
            · skip
              have tc_117 : ¬ z_116.toInt = 3 := fun h => c_117 ((fa_eq _ _).mpr h)
              refine lv_aload_n hx hb dX10_line_145 rfl (lv_at hl 3 rfl) ?_
              refine t_geti cf_11 hx hb hts hown hK hT h_a (k := 12) rfl fl_X10_163 (fun _ h9 => h9) dX10_line_146 (fun z_118 ez_118 rz_118 => ?_)
              have w_119 : z_1 = z_118 := ez_1.trans ez_118.symm
              subst w_119
              refine lv_if_eq (tgt := 153) hx hb dX10_line_149 (by decide) (fun c_120 => ?_) (fun c_120 => ?_)
              · skip
                have tc_120 : z_1.toInt = 0 := (fa_eq _ _).mp c_120
                refine lv_aload_n hx hb dX10_line_153 rfl (lv_at hl 3 rfl) ?_
                obtain ⟨q_121, eq_121, hq_121⟩ := (show ∃ q, G.2.2.1 a 5 = some q ∧ τ q = 55 from hT.rgr h_a (by decide) 5)
                refine t_callv (runV (As := []) (rest := []) ⟨hx, hb, hml, hown, hts⟩ (t_X10_next l D cy base τ G a h_a q_121 hq_121 eq_121 tp e_tp ⟨by omega, by omega⟩ a0 e_a0 ⟨by omega, by omega⟩ z_1 ez_1 (by show a0.toInt ≤ tp.toInt; first | assumption | omega | decide)) sV_X10_173 hK (t_recv cf_11 hK hT h_a) ⟨Nat.le_trans hZ hS.1, hT⟩ ⟨Nat.le_of_ble_eq_true rfl, Nat.le_of_ble_eq_true rfl⟩ rfl hl.1 rfl (Nat.le_of_ble_eq_true rfl) dX10_line_154 ⟨Nat.le_of_ble_eq_true rfl, Nat.le_of_ble_eq_true rfl⟩) hS (fun G_122 H locs hF_122 hr_122 hT hS => ?_)
                have hF := hF.tr hF_122 rfl
                have kx0 : ∀ j : Nat, j ≠ 4 → G_122.1 tha j = G.1 tha j := fun j hj => (hF_122.i h_tha (by decide) rfl j).trans (kx0 j hj)
                have kx1 : ∀ j : Nat, j < 24 → G_122.1 sa j = G.1 sa j := fun j hj => (hF_122.i h_sa (by decide) rfl j).trans (kx1 j hj)
                have k_125 : sc = G_122.1 sa 25 := e_sc.trans (hF_122.i h_sa (by decide) rfl _).symm
                have k_128 : z_116 = G_122.1 tha 4 := ez_116.trans (hF_122.i h_tha (by decide) rfl _).symm
                obtain ⟨hr_122_p0, hr_122_p1, hr_122_p2, hr_122_s0, hr_122_s1⟩ := hr_122
                have k_129 : tp = G_122.1 a 6 := e_tp.trans hr_122_s0.symm
                have k_130 : z_1 = G_122.1 a 12 := ez_1.trans hr_122_s1.symm
                obtain ⟨z_131, z_132, ez_131, ez_132, hr_122_p0, hr_122_p1, hr_122_p2⟩ : ∃ z_131 z_132 : Int32, z_131 = G_122.1 a 7 ∧ z_132 = G_122.1 a 8 ∧ (a0.toInt ≤ z_131.toInt) ∧ (z_131.toInt ≤ tp.toInt) ∧ (z_132.toInt = 0 ∨ a0.toInt < z_131.toInt) := ⟨_, _, rfl, rfl, hr_122_p0, hr_122_p1, hr_122_p2⟩
                have rz_131 : 0 ≤ z_131.toInt ∧ z_131.toInt ≤ 1600 := by rw [ez_131]; exact hT.rgi h_a (by decide) 7
                refine lv_iload_n hx hb dX10_line_157 rfl (lv_at hl 1 rfl) ?_
                refine lv_if_eq (tgt := 168) hx hb dX10_line_158 (by decide) (fun c_133 => absurd c_133 (by decide)) (fun _ => ?_)
                refine lv_aload_n hx hb dX10_line_161 rfl (lv_at hl 3 rfl) ?_
                refine t_callv (runV (As := []) (rest := []) ⟨hx, hb, hml, hown, hts⟩ (t_X10_thingLine l D cy base τ G_122 a h_a tha h_tha ((hF.r h_a (by decide) rfl _).trans e_tha) tp k_129 ⟨by omega, by omega⟩ z_131 ez_131 ⟨by omega, by omega⟩ z_116 k_128 ⟨by omega, by omega⟩ (by show z_131.toInt ≤ tp.toInt; first | assumption | omega | decide)) sV_X10_239 hK (t_recv cf_11 hK hT h_a) ⟨Nat.le_trans hZ hS.1, hT⟩ ⟨Nat.le_of_ble_eq_true rfl, Nat.le_of_ble_eq_true rfl⟩ rfl hl.1 rfl (Nat.le_of_ble_eq_true rfl) dX10_line_162 ⟨Nat.le_of_ble_eq_true rfl, Nat.le_of_ble_eq_true rfl⟩) hS (fun G_134 H locs hF_134 hr_134 hT hS => ?_)
                have hF := hF.tr hF_134 rfl
                have kx1 : ∀ j : Nat, j < 24 → G_134.1 sa j = G.1 sa j := fun j hj => (hF_134.i h_sa (by decide) rfl j).trans (kx1 j hj)
                have k_135 : sc = G_134.1 sa 25 := k_125.trans (hF_134.i h_sa (by decide) rfl _).symm
                obtain ⟨hr_134_p0, hr_134_p1, hr_134_s0, hr_134_x0⟩ := hr_134
                have kx0 : ∀ j : Nat, j ≠ 4 → G_134.1 tha j = G.1 tha j := fun j hj => (hr_134_x0 j hj).trans (kx0 j hj)
                have k_141 : tp = G_134.1 a 6 := k_129.trans hr_134_s0.symm
                obtain ⟨z_142, ez_142, hr_134_p0, hr_134_p1⟩ : ∃ z_142 : Int32, z_142 = G_134.1 a 7 ∧ (z_131.toInt ≤ z_142.toInt) ∧ (z_142.toInt ≤ tp.toInt) := ⟨_, rfl, hr_134_p0, hr_134_p1⟩
                have rz_142 : 0 ≤ z_142.toInt ∧ z_142.toInt ≤ 1600 := by rw [ez_142]; exact hT.rgi h_a (by decide) 7
                refine lv_goto (tgt := 183) hx hb dX10_line_165 (by decide) ?_
                exact ret_v hx hb hr hlocks ⟨⟨hS.1, hS.2.1⟩, G_134, hF, ⟨rfl, ⟨(by first | (show a0.toInt ≤ (G_134.1 a 7).toInt; rw [← ez_142]; done) | (show a0.toInt ≤ (G_134.1 a 7).toInt; rw [← ez_142]; show a0.toInt ≤ z_142.toInt; first | omega | assumption)), (by first | (show (G_134.1 a 7).toInt ≤ tp.toInt; rw [← ez_142]; done) | (show (G_134.1 a 7).toInt ≤ tp.toInt; rw [← ez_142]; show z_142.toInt ≤ tp.toInt; first | omega | assumption)), (by first | (show 1 ≤ (G_134.1 sa 25).toInt; rw [← k_135]; done) | (show 1 ≤ (G_134.1 sa 25).toInt; rw [← k_135]; show 1 ≤ sc.toInt; first | omega | assumption)), (k_141.symm.trans e_tp), kx0, kx1⟩⟩, hT⟩ hS.2.2 (Nat.le_of_ble_eq_true rfl) (Nat.le_of_ble_eq_true rfl) dX10_line_183
              · skip
                have tc_120 : ¬ z_1.toInt = 0 := fun h => c_120 ((fa_eq _ _).mpr h)
                exfalso; omega
            · skip
              have tc_117 : z_116.toInt = 3 := (fa_eq _ _).mp c_117
              refine lv_goto (tgt := 140) hx hb dX10_line_108 (by decide) ?_
              refine lv_aload_n hx hb dX10_line_140 rfl (lv_at hl 3 rfl) ?_
              refine lv_iconst (v := 3) hx hb dX10_line_141 (by decide) ?_
              refine t_callv (runV (As := [.int 3]) (rest := []) ⟨hx, hb, hml, hown, hts⟩ (t_X10_fails l D cy base τ G a h_a 3 (by decide) tp e_tp ⟨by omega, by omega⟩ a0 e_a0 ⟨by omega, by omega⟩ z_2 ez_2 z_1 ez_1) sV_X10_179 hK (t_recv cf_11 hK hT h_a) ⟨Nat.le_trans hZ hS.1, hT⟩ ⟨Nat.le_of_ble_eq_true rfl, Nat.le_of_ble_eq_true rfl⟩ rfl hl.1 rfl (Nat.le_of_ble_eq_true rfl) dX10_line_142 ⟨Nat.le_of_ble_eq_true rfl, Nat.le_of_ble_eq_true rfl⟩) hS (fun G_143 H locs hF_143 hr_143 hT hS => ?_)
              have hF := hF.tr hF_143 rfl
              have kx0 : ∀ j : Nat, j ≠ 4 → G_143.1 tha j = G.1 tha j := fun j hj => (hF_143.i h_tha (by decide) rfl j).trans (kx0 j hj)
              have kx1 : ∀ j : Nat, j < 24 → G_143.1 sa j = G.1 sa j := fun j hj => (hF_143.i h_sa (by decide) rfl j).trans (kx1 j hj)
              have k_146 : sc = G_143.1 sa 25 := e_sc.trans (hF_143.i h_sa (by decide) rfl _).symm
              have k_149 : z_116 = G_143.1 tha 4 := ez_116.trans (hF_143.i h_tha (by decide) rfl _).symm
              obtain ⟨hr_143_p0, hr_143_s0, hr_143_s1, hr_143_s2⟩ := hr_143
              have k_150 : tp = G_143.1 a 6 := e_tp.trans hr_143_s0.symm
              have k_151 : a0 = G_143.1 a 7 := e_a0.trans hr_143_s1.symm
              have k_152 : z_2 = G_143.1 a 8 := ez_2.trans hr_143_s2.symm
              obtain ⟨z_153, ez_153, hr_143_p0⟩ : ∃ z_153 : Int32, z_153 = G_143.1 a 12 ∧ (z_153.toInt ≠ 0) := ⟨_, rfl, hr_143_p0⟩
              refine lv_aload_n hx hb dX10_line_145 rfl (lv_at hl 3 rfl) ?_
              refine t_geti cf_11 hx hb hts hown hK hT h_a (k := 12) rfl fl_X10_163 (fun _ h9 => h9) dX10_line_146 (fun z_154 ez_154 rz_154 => ?_)
              have w_155 : z_153 = z_154 := ez_153.trans ez_154.symm
              subst w_155
              refine lv_if_eq (tgt := 153) hx hb dX10_line_149 (by decide) (fun c_156 => ?_) (fun c_156 => ?_)
              · skip
                have tc_156 : z_153.toInt = 0 := (fa_eq _ _).mp c_156
                refine lv_aload_n hx hb dX10_line_153 rfl (lv_at hl 3 rfl) ?_
                obtain ⟨q_157, eq_157, hq_157⟩ := (show ∃ q, G_143.2.2.1 a 5 = some q ∧ τ q = 55 from hT.rgr h_a (by decide) 5)
                have eq_157 := (hF.r h_a (by decide) rfl _).symm.trans eq_157
                refine t_callv (runV (As := []) (rest := []) ⟨hx, hb, hml, hown, hts⟩ (t_X10_next l D cy base τ G_143 a h_a q_157 hq_157 ((hF.r h_a (by decide) rfl _).trans eq_157) tp k_150 ⟨by omega, by omega⟩ a0 k_151 ⟨by omega, by omega⟩ z_153 ez_153 (by show a0.toInt ≤ tp.toInt; first | assumption | omega | decide)) sV_X10_173 hK (t_recv cf_11 hK hT h_a) ⟨Nat.le_trans hZ hS.1, hT⟩ ⟨Nat.le_of_ble_eq_true rfl, Nat.le_of_ble_eq_true rfl⟩ rfl hl.1 rfl (Nat.le_of_ble_eq_true rfl) dX10_line_154 ⟨Nat.le_of_ble_eq_true rfl, Nat.le_of_ble_eq_true rfl⟩) hS (fun G_158 H locs hF_158 hr_158 hT hS => ?_)
                have hF := hF.tr hF_158 rfl
                have kx0 : ∀ j : Nat, j ≠ 4 → G_158.1 tha j = G.1 tha j := fun j hj => (hF_158.i h_tha (by decide) rfl j).trans (kx0 j hj)
                have kx1 : ∀ j : Nat, j < 24 → G_158.1 sa j = G.1 sa j := fun j hj => (hF_158.i h_sa (by decide) rfl j).trans (kx1 j hj)
                have k_159 : sc = G_158.1 sa 25 := k_146.trans (hF_158.i h_sa (by decide) rfl _).symm
                have k_160 : z_116 = G_158.1 tha 4 := k_149.trans (hF_158.i h_tha (by decide) rfl _).symm
                obtain ⟨hr_158_p0, hr_158_p1, hr_158_p2, hr_158_s0, hr_158_s1⟩ := hr_158
                have k_165 : tp = G_158.1 a 6 := k_150.trans hr_158_s0.symm
                have k_166 : z_153 = G_158.1 a 12 := ez_153.trans hr_158_s1.symm
                obtain ⟨z_167, z_168, ez_167, ez_168, hr_158_p0, hr_158_p1, hr_158_p2⟩ : ∃ z_167 z_168 : Int32, z_167 = G_158.1 a 7 ∧ z_168 = G_158.1 a 8 ∧ (a0.toInt ≤ z_167.toInt) ∧ (z_167.toInt ≤ tp.toInt) ∧ (z_168.toInt = 0 ∨ a0.toInt < z_167.toInt) := ⟨_, _, rfl, rfl, hr_158_p0, hr_158_p1, hr_158_p2⟩
                have rz_167 : 0 ≤ z_167.toInt ∧ z_167.toInt ≤ 1600 := by rw [ez_167]; exact hT.rgi h_a (by decide) 7
                refine lv_iload_n hx hb dX10_line_157 rfl (lv_at hl 1 rfl) ?_
                refine lv_if_eq (tgt := 168) hx hb dX10_line_158 (by decide) (fun c_169 => absurd c_169 (by decide)) (fun _ => ?_)
                refine lv_aload_n hx hb dX10_line_161 rfl (lv_at hl 3 rfl) ?_
                refine t_callv (runV (As := []) (rest := []) ⟨hx, hb, hml, hown, hts⟩ (t_X10_thingLine l D cy base τ G_158 a h_a tha h_tha ((hF.r h_a (by decide) rfl _).trans e_tha) tp k_165 ⟨by omega, by omega⟩ z_167 ez_167 ⟨by omega, by omega⟩ z_116 k_160 ⟨by omega, by omega⟩ (by show z_167.toInt ≤ tp.toInt; first | assumption | omega | decide)) sV_X10_239 hK (t_recv cf_11 hK hT h_a) ⟨Nat.le_trans hZ hS.1, hT⟩ ⟨Nat.le_of_ble_eq_true rfl, Nat.le_of_ble_eq_true rfl⟩ rfl hl.1 rfl (Nat.le_of_ble_eq_true rfl) dX10_line_162 ⟨Nat.le_of_ble_eq_true rfl, Nat.le_of_ble_eq_true rfl⟩) hS (fun G_170 H locs hF_170 hr_170 hT hS => ?_)
                have hF := hF.tr hF_170 rfl
                have kx1 : ∀ j : Nat, j < 24 → G_170.1 sa j = G.1 sa j := fun j hj => (hF_170.i h_sa (by decide) rfl j).trans (kx1 j hj)
                have k_171 : sc = G_170.1 sa 25 := k_159.trans (hF_170.i h_sa (by decide) rfl _).symm
                obtain ⟨hr_170_p0, hr_170_p1, hr_170_s0, hr_170_x0⟩ := hr_170
                have kx0 : ∀ j : Nat, j ≠ 4 → G_170.1 tha j = G.1 tha j := fun j hj => (hr_170_x0 j hj).trans (kx0 j hj)
                have k_177 : tp = G_170.1 a 6 := k_165.trans hr_170_s0.symm
                obtain ⟨z_178, ez_178, hr_170_p0, hr_170_p1⟩ : ∃ z_178 : Int32, z_178 = G_170.1 a 7 ∧ (z_167.toInt ≤ z_178.toInt) ∧ (z_178.toInt ≤ tp.toInt) := ⟨_, rfl, hr_170_p0, hr_170_p1⟩
                have rz_178 : 0 ≤ z_178.toInt ∧ z_178.toInt ≤ 1600 := by rw [ez_178]; exact hT.rgi h_a (by decide) 7
                refine lv_goto (tgt := 183) hx hb dX10_line_165 (by decide) ?_
                exact ret_v hx hb hr hlocks ⟨⟨hS.1, hS.2.1⟩, G_170, hF, ⟨rfl, ⟨(by first | (show a0.toInt ≤ (G_170.1 a 7).toInt; rw [← ez_178]; done) | (show a0.toInt ≤ (G_170.1 a 7).toInt; rw [← ez_178]; show a0.toInt ≤ z_178.toInt; first | omega | assumption)), (by first | (show (G_170.1 a 7).toInt ≤ tp.toInt; rw [← ez_178]; done) | (show (G_170.1 a 7).toInt ≤ tp.toInt; rw [← ez_178]; show z_178.toInt ≤ tp.toInt; first | omega | assumption)), (by first | (show 1 ≤ (G_170.1 sa 25).toInt; rw [← k_171]; done) | (show 1 ≤ (G_170.1 sa 25).toInt; rw [← k_171]; show 1 ≤ sc.toInt; first | omega | assumption)), (k_177.symm.trans e_tp), kx0, kx1⟩⟩, hT⟩ hS.2.2 (Nat.le_of_ble_eq_true rfl) (Nat.le_of_ble_eq_true rfl) dX10_line_183
              · skip
                have tc_156 : ¬ z_153.toInt = 0 := fun h => c_156 ((fa_eq _ _).mpr h)
                exact ret_v hx hb hr hlocks ⟨⟨hS.1, hS.2.1⟩, G_143, hF, ⟨rfl, ⟨(by first | (show a0.toInt ≤ (G_143.1 a 7).toInt; rw [← k_151]; done) | (show a0.toInt ≤ (G_143.1 a 7).toInt; rw [← k_151]; show a0.toInt ≤ a0.toInt; first | omega | assumption)), (by first | (show (G_143.1 a 7).toInt ≤ tp.toInt; rw [← k_151]; done) | (show (G_143.1 a 7).toInt ≤ tp.toInt; rw [← k_151]; show a0.toInt ≤ tp.toInt; first | omega | assumption)), (by first | (show 1 ≤ (G_143.1 sa 25).toInt; rw [← k_146]; done) | (show 1 ≤ (G_143.1 sa 25).toInt; rw [← k_146]; show 1 ≤ sc.toInt; first | omega | assumption)), (k_150.symm.trans e_tp), kx0, kx1⟩⟩, hT⟩ hS.2.2 (Nat.le_of_ble_eq_true rfl) (Nat.le_of_ble_eq_true rfl) dX10_line_152
        · skip
          have er_43 := hr_43_1
          subst er_43
          refine W.eq (g2 := F0 m 62 ls [.int 0]) rfl ?_
          refine lv_istore_n (lv' := [(2, .int 0), (1, .int (-1)), (0, .ref a)]) hx hb dX10_line_62 rfl hl (by decide) rfl (fun ls hl => ?_)
          refine lv_aload_n hx hb dX10_line_63 rfl (lv_at hl 2 rfl) ?_
          refine lv_ldc2 (v := 316452499) hx hb hown (hts _ kl_X10_235) dX10_line_64 ?_
          refine pu_calli (runV (As := [.long 316452499]) (rest := []) ⟨hx, hb, hml, hown, hts⟩ (t_X10_is l D cy base τ G a h_a 316452499 z_1 ez_1 z_2 ez_2) sV_X10_169 hK (t_recv cf_11 hK hT h_a) ⟨Nat.le_trans hZ hS.1, hT⟩ ⟨Nat.le_of_ble_eq_true rfl, Nat.le_of_ble_eq_true rfl⟩ rfl hl.1 rfl (Nat.le_of_ble_eq_true rfl) dX10_line_67 ⟨Nat.le_of_ble_eq_true rfl, Nat.le_of_ble_eq_true rfl⟩) (fun r_179 hr_179 => ?_)
          have hr_179_c := hr_179
          rcases hr_179_c with hr_179_0 | hr_179_1
          · skip
            obtain ⟨er_179, hr_179_0_f0, hr_179_0_f1⟩ := hr_179_0
            have hr_179_0_f0 : z_1.toInt = 0 := hr_179_0_f0
            have hr_179_0_f1 : z_2.toInt = 1 := hr_179_0_f1
            subst er_179
            refine W.eq (g2 := F0 m 70 ls [.int 1]) rfl ?_
            refine lv_istore_n (lv' := [(3, .int 1), (2, .int 0), (1, .int (-1)), (0, .ref a)]) hx hb dX10_line_70 rfl hl (by decide) rfl (fun ls hl => ?_)
            refine lv_iload_n hx hb dX10_line_71 rfl (lv_at hl 1 rfl) ?_
            refine lv_if_ne (tgt := 94) hx hb dX10_line_72 (by decide) (fun c_180 => absurd rfl c_180) (fun _ => ?_)
            refine lv_iload_n hx hb dX10_line_75 rfl (lv_at hl 0 rfl) ?_
            refine lv_if_ne (tgt := 94) hx hb dX10_line_76 (by decide) (fun _ => ?_) (fun c_181 => absurd c_181 (by decide))
            refine lv_iload_n hx hb dX10_line_94 rfl (lv_at hl 1 rfl) ?_
            refine lv_if_eq (tgt := 111) hx hb dX10_line_95 (by decide) (fun _ => ?_) (fun c_182 => absurd (by decide) c_182)
            refine lv_iload_n hx hb dX10_line_111 rfl (lv_at hl 0 rfl) ?_
            refine lv_if_eq (tgt := 129) hx hb dX10_line_112 (by decide) (fun c_183 => absurd c_183 (by decide)) (fun _ => ?_)
            refine lv_aload_n hx hb dX10_line_115 rfl (lv_at hl 3 rfl) ?_
            refine t_getr cf_11 hx hb hts hown hK hT h_a (k := 20) (P := fun q => τ q = 70) rfl (fun _ h9 => h9) fl_X10_43 (fun _ h9 => h9) dX10_line_116 (fun q_184 eq_184 hq_184 => ?_)
            refine lv_iconst (v := 4) hx hb dX10_line_119 (by decide) ?_
            refine t_iald (n := 5) (i := 4) rfl (by decide) hx hb hK hT hq_184 (hT.len hq_184 (by decide)) ⟨by decide, by decide⟩ dX10_line_120 (fun z_185 ez_185 rz_185 => ?_)
            have ez_185 : z_185 = G.1 q_184 4 := ez_185
            have rz_185 : 0 ≤ z_185.toInt ∧ z_185.toInt ≤ 6 := rz_185
            refine lv_bipush (v := 6) hx hb dX10_line_121 (by decide) ?_
            refine lv_icmp_ne (tgt := 145) hx hb dX10_line_123 (by decide) (fun c_186 => ?_) (fun c_186 => ?_)
            · skip
              have tc_186 : ¬ z_185.toInt = 6 := fun h => c_186 ((fa_eq _ _).mpr h)
              refine lv_aload_n hx hb dX10_line_145 rfl (lv_at hl 3 rfl) ?_
              refine t_geti cf_11 hx hb hts hown hK hT h_a (k := 12) rfl fl_X10_163 (fun _ h9 => h9) dX10_line_146 (fun z_187 ez_187 rz_187 => ?_)
              have w_188 : z_1 = z_187 := ez_1.trans ez_187.symm
              subst w_188
              refine lv_if_eq (tgt := 153) hx hb dX10_line_149 (by decide) (fun c_189 => ?_) (fun c_189 => ?_)
              · skip
                have tc_189 : z_1.toInt = 0 := (fa_eq _ _).mp c_189
                refine lv_aload_n hx hb dX10_line_153 rfl (lv_at hl 3 rfl) ?_
                obtain ⟨q_190, eq_190, hq_190⟩ := (show ∃ q, G.2.2.1 a 5 = some q ∧ τ q = 55 from hT.rgr h_a (by decide) 5)
                refine t_callv (runV (As := []) (rest := []) ⟨hx, hb, hml, hown, hts⟩ (t_X10_next l D cy base τ G a h_a q_190 hq_190 eq_190 tp e_tp ⟨by omega, by omega⟩ a0 e_a0 ⟨by omega, by omega⟩ z_1 ez_1 (by show a0.toInt ≤ tp.toInt; first | assumption | omega | decide)) sV_X10_173 hK (t_recv cf_11 hK hT h_a) ⟨Nat.le_trans hZ hS.1, hT⟩ ⟨Nat.le_of_ble_eq_true rfl, Nat.le_of_ble_eq_true rfl⟩ rfl hl.1 rfl (Nat.le_of_ble_eq_true rfl) dX10_line_154 ⟨Nat.le_of_ble_eq_true rfl, Nat.le_of_ble_eq_true rfl⟩) hS (fun G_191 H locs hF_191 hr_191 hT hS => ?_)
                have hF := hF.tr hF_191 rfl
                have kx0 : ∀ j : Nat, j ≠ 4 → G_191.1 tha j = G.1 tha j := fun j hj => (hF_191.i h_tha (by decide) rfl j).trans (kx0 j hj)
                have kx1 : ∀ j : Nat, j < 24 → G_191.1 sa j = G.1 sa j := fun j hj => (hF_191.i h_sa (by decide) rfl j).trans (kx1 j hj)
                have k_194 : sc = G_191.1 sa 25 := e_sc.trans (hF_191.i h_sa (by decide) rfl _).symm
                have k_197 : z_185 = G_191.1 q_184 4 := ez_185.trans (hF_191.i hq_184 (by decide) rfl _).symm
                obtain ⟨hr_191_p0, hr_191_p1, hr_191_p2, hr_191_s0, hr_191_s1⟩ := hr_191
                have k_198 : tp = G_191.1 a 6 := e_tp.trans hr_191_s0.symm
                have k_199 : z_1 = G_191.1 a 12 := ez_1.trans hr_191_s1.symm
                obtain ⟨z_200, z_201, ez_200, ez_201, hr_191_p0, hr_191_p1, hr_191_p2⟩ : ∃ z_200 z_201 : Int32, z_200 = G_191.1 a 7 ∧ z_201 = G_191.1 a 8 ∧ (a0.toInt ≤ z_200.toInt) ∧ (z_200.toInt ≤ tp.toInt) ∧ (z_201.toInt = 0 ∨ a0.toInt < z_200.toInt) := ⟨_, _, rfl, rfl, hr_191_p0, hr_191_p1, hr_191_p2⟩
                have rz_200 : 0 ≤ z_200.toInt ∧ z_200.toInt ≤ 1600 := by rw [ez_200]; exact hT.rgi h_a (by decide) 7
                refine lv_iload_n hx hb dX10_line_157 rfl (lv_at hl 1 rfl) ?_
                refine lv_if_eq (tgt := 168) hx hb dX10_line_158 (by decide) (fun _ => ?_) (fun c_202 => absurd (by decide) c_202)
                refine lv_iload_n hx hb dX10_line_168 rfl (lv_at hl 0 rfl) ?_
                refine lv_if_eq (tgt := 179) hx hb dX10_line_169 (by decide) (fun c_203 => absurd c_203 (by decide)) (fun _ => ?_)
                refine lv_aload_n hx hb dX10_line_172 rfl (lv_at hl 3 rfl) ?_
                refine t_callv (runV (As := []) (rest := []) ⟨hx, hb, hml, hown, hts⟩ (t_X10_valleyLine l D cy base τ G_191 a h_a q_184 hq_184 ((hF.r h_a (by decide) rfl _).trans eq_184) tp k_198 ⟨by omega, by omega⟩ z_200 ez_200 ⟨by omega, by omega⟩ z_185 k_197 ⟨by omega, by omega⟩ (by show z_200.toInt ≤ tp.toInt; first | assumption | omega | decide)) sV_X10_242 hK (t_recv cf_11 hK hT h_a) ⟨Nat.le_trans hZ hS.1, hT⟩ ⟨Nat.le_of_ble_eq_true rfl, Nat.le_of_ble_eq_true rfl⟩ rfl hl.1 rfl (Nat.le_of_ble_eq_true rfl) dX10_line_173 ⟨Nat.le_of_ble_eq_true rfl, Nat.le_of_ble_eq_true rfl⟩) hS (fun G_204 H locs hF_204 hr_204 hT hS => ?_)
                have hF := hF.tr hF_204 rfl
                have kx0 : ∀ j : Nat, j ≠ 4 → G_204.1 tha j = G.1 tha j := fun j hj => (hF_204.i h_tha (by decide) rfl j).trans (kx0 j hj)
                have kx1 : ∀ j : Nat, j < 24 → G_204.1 sa j = G.1 sa j := fun j hj => (hF_204.i h_sa (by decide) rfl j).trans (kx1 j hj)
                have k_205 : sc = G_204.1 sa 25 := k_194.trans (hF_204.i h_sa (by decide) rfl _).symm
                obtain ⟨hr_204_p0, hr_204_p1, hr_204_s0⟩ := hr_204
                have k_211 : tp = G_204.1 a 6 := k_198.trans hr_204_s0.symm
                obtain ⟨z_212, ez_212, hr_204_p0, hr_204_p1⟩ : ∃ z_212 : Int32, z_212 = G_204.1 a 7 ∧ (z_200.toInt ≤ z_212.toInt) ∧ (z_212.toInt ≤ tp.toInt) := ⟨_, rfl, hr_204_p0, hr_204_p1⟩
                have rz_212 : 0 ≤ z_212.toInt ∧ z_212.toInt ≤ 1600 := by rw [ez_212]; exact hT.rgi h_a (by decide) 7
                refine lv_goto (tgt := 183) hx hb dX10_line_176 (by decide) ?_
                exact ret_v hx hb hr hlocks ⟨⟨hS.1, hS.2.1⟩, G_204, hF, ⟨rfl, ⟨(by first | (show a0.toInt ≤ (G_204.1 a 7).toInt; rw [← ez_212]; done) | (show a0.toInt ≤ (G_204.1 a 7).toInt; rw [← ez_212]; show a0.toInt ≤ z_212.toInt; first | omega | assumption)), (by first | (show (G_204.1 a 7).toInt ≤ tp.toInt; rw [← ez_212]; done) | (show (G_204.1 a 7).toInt ≤ tp.toInt; rw [← ez_212]; show z_212.toInt ≤ tp.toInt; first | omega | assumption)), (by first | (show 1 ≤ (G_204.1 sa 25).toInt; rw [← k_205]; done) | (show 1 ≤ (G_204.1 sa 25).toInt; rw [← k_205]; show 1 ≤ sc.toInt; first | omega | assumption)), (k_211.symm.trans e_tp), kx0, kx1⟩⟩, hT⟩ hS.2.2 (Nat.le_of_ble_eq_true rfl) (Nat.le_of_ble_eq_true rfl) dX10_line_183
              · skip
                have tc_189 : ¬ z_1.toInt = 0 := fun h => c_189 ((fa_eq _ _).mpr h)
                exfalso; omega
            · skip
              have tc_186 : z_185.toInt = 6 := (fa_eq _ _).mp c_186
              refine lv_goto (tgt := 140) hx hb dX10_line_126 (by decide) ?_
              refine lv_aload_n hx hb dX10_line_140 rfl (lv_at hl 3 rfl) ?_
              refine lv_iconst (v := 3) hx hb dX10_line_141 (by decide) ?_
              refine t_callv (runV (As := [.int 3]) (rest := []) ⟨hx, hb, hml, hown, hts⟩ (t_X10_fails l D cy base τ G a h_a 3 (by decide) tp e_tp ⟨by omega, by omega⟩ a0 e_a0 ⟨by omega, by omega⟩ z_2 ez_2 z_1 ez_1) sV_X10_179 hK (t_recv cf_11 hK hT h_a) ⟨Nat.le_trans hZ hS.1, hT⟩ ⟨Nat.le_of_ble_eq_true rfl, Nat.le_of_ble_eq_true rfl⟩ rfl hl.1 rfl (Nat.le_of_ble_eq_true rfl) dX10_line_142 ⟨Nat.le_of_ble_eq_true rfl, Nat.le_of_ble_eq_true rfl⟩) hS (fun G_213 H locs hF_213 hr_213 hT hS => ?_)
              have hF := hF.tr hF_213 rfl
              have kx0 : ∀ j : Nat, j ≠ 4 → G_213.1 tha j = G.1 tha j := fun j hj => (hF_213.i h_tha (by decide) rfl j).trans (kx0 j hj)
              have kx1 : ∀ j : Nat, j < 24 → G_213.1 sa j = G.1 sa j := fun j hj => (hF_213.i h_sa (by decide) rfl j).trans (kx1 j hj)
              have k_216 : sc = G_213.1 sa 25 := e_sc.trans (hF_213.i h_sa (by decide) rfl _).symm
              have k_219 : z_185 = G_213.1 q_184 4 := ez_185.trans (hF_213.i hq_184 (by decide) rfl _).symm
              obtain ⟨hr_213_p0, hr_213_s0, hr_213_s1, hr_213_s2⟩ := hr_213
              have k_220 : tp = G_213.1 a 6 := e_tp.trans hr_213_s0.symm
              have k_221 : a0 = G_213.1 a 7 := e_a0.trans hr_213_s1.symm
              have k_222 : z_2 = G_213.1 a 8 := ez_2.trans hr_213_s2.symm
              obtain ⟨z_223, ez_223, hr_213_p0⟩ : ∃ z_223 : Int32, z_223 = G_213.1 a 12 ∧ (z_223.toInt ≠ 0) := ⟨_, rfl, hr_213_p0⟩
              refine lv_aload_n hx hb dX10_line_145 rfl (lv_at hl 3 rfl) ?_
              refine t_geti cf_11 hx hb hts hown hK hT h_a (k := 12) rfl fl_X10_163 (fun _ h9 => h9) dX10_line_146 (fun z_224 ez_224 rz_224 => ?_)
              have w_225 : z_223 = z_224 := ez_223.trans ez_224.symm
              subst w_225
              refine lv_if_eq (tgt := 153) hx hb dX10_line_149 (by decide) (fun c_226 => ?_) (fun c_226 => ?_)
              · skip
                have tc_226 : z_223.toInt = 0 := (fa_eq _ _).mp c_226
                refine lv_aload_n hx hb dX10_line_153 rfl (lv_at hl 3 rfl) ?_
                obtain ⟨q_227, eq_227, hq_227⟩ := (show ∃ q, G_213.2.2.1 a 5 = some q ∧ τ q = 55 from hT.rgr h_a (by decide) 5)
                have eq_227 := (hF.r h_a (by decide) rfl _).symm.trans eq_227
                refine t_callv (runV (As := []) (rest := []) ⟨hx, hb, hml, hown, hts⟩ (t_X10_next l D cy base τ G_213 a h_a q_227 hq_227 ((hF.r h_a (by decide) rfl _).trans eq_227) tp k_220 ⟨by omega, by omega⟩ a0 k_221 ⟨by omega, by omega⟩ z_223 ez_223 (by show a0.toInt ≤ tp.toInt; first | assumption | omega | decide)) sV_X10_173 hK (t_recv cf_11 hK hT h_a) ⟨Nat.le_trans hZ hS.1, hT⟩ ⟨Nat.le_of_ble_eq_true rfl, Nat.le_of_ble_eq_true rfl⟩ rfl hl.1 rfl (Nat.le_of_ble_eq_true rfl) dX10_line_154 ⟨Nat.le_of_ble_eq_true rfl, Nat.le_of_ble_eq_true rfl⟩) hS (fun G_228 H locs hF_228 hr_228 hT hS => ?_)
                have hF := hF.tr hF_228 rfl
                have kx0 : ∀ j : Nat, j ≠ 4 → G_228.1 tha j = G.1 tha j := fun j hj => (hF_228.i h_tha (by decide) rfl j).trans (kx0 j hj)
                have kx1 : ∀ j : Nat, j < 24 → G_228.1 sa j = G.1 sa j := fun j hj => (hF_228.i h_sa (by decide) rfl j).trans (kx1 j hj)
                have k_229 : sc = G_228.1 sa 25 := k_216.trans (hF_228.i h_sa (by decide) rfl _).symm
                have k_230 : z_185 = G_228.1 q_184 4 := k_219.trans (hF_228.i hq_184 (by decide) rfl _).symm
                obtain ⟨hr_228_p0, hr_228_p1, hr_228_p2, hr_228_s0, hr_228_s1⟩ := hr_228
                have k_235 : tp = G_228.1 a 6 := k_220.trans hr_228_s0.symm
                have k_236 : z_223 = G_228.1 a 12 := ez_223.trans hr_228_s1.symm
                obtain ⟨z_237, z_238, ez_237, ez_238, hr_228_p0, hr_228_p1, hr_228_p2⟩ : ∃ z_237 z_238 : Int32, z_237 = G_228.1 a 7 ∧ z_238 = G_228.1 a 8 ∧ (a0.toInt ≤ z_237.toInt) ∧ (z_237.toInt ≤ tp.toInt) ∧ (z_238.toInt = 0 ∨ a0.toInt < z_237.toInt) := ⟨_, _, rfl, rfl, hr_228_p0, hr_228_p1, hr_228_p2⟩
                have rz_237 : 0 ≤ z_237.toInt ∧ z_237.toInt ≤ 1600 := by rw [ez_237]; exact hT.rgi h_a (by decide) 7
                refine lv_iload_n hx hb dX10_line_157 rfl (lv_at hl 1 rfl) ?_
                refine lv_if_eq (tgt := 168) hx hb dX10_line_158 (by decide) (fun _ => ?_) (fun c_239 => absurd (by decide) c_239)
                refine lv_iload_n hx hb dX10_line_168 rfl (lv_at hl 0 rfl) ?_
                refine lv_if_eq (tgt := 179) hx hb dX10_line_169 (by decide) (fun c_240 => absurd c_240 (by decide)) (fun _ => ?_)
                refine lv_aload_n hx hb dX10_line_172 rfl (lv_at hl 3 rfl) ?_
                refine t_callv (runV (As := []) (rest := []) ⟨hx, hb, hml, hown, hts⟩ (t_X10_valleyLine l D cy base τ G_228 a h_a q_184 hq_184 ((hF.r h_a (by decide) rfl _).trans eq_184) tp k_235 ⟨by omega, by omega⟩ z_237 ez_237 ⟨by omega, by omega⟩ z_185 k_230 ⟨by omega, by omega⟩ (by show z_237.toInt ≤ tp.toInt; first | assumption | omega | decide)) sV_X10_242 hK (t_recv cf_11 hK hT h_a) ⟨Nat.le_trans hZ hS.1, hT⟩ ⟨Nat.le_of_ble_eq_true rfl, Nat.le_of_ble_eq_true rfl⟩ rfl hl.1 rfl (Nat.le_of_ble_eq_true rfl) dX10_line_173 ⟨Nat.le_of_ble_eq_true rfl, Nat.le_of_ble_eq_true rfl⟩) hS (fun G_241 H locs hF_241 hr_241 hT hS => ?_)
                have hF := hF.tr hF_241 rfl
                have kx0 : ∀ j : Nat, j ≠ 4 → G_241.1 tha j = G.1 tha j := fun j hj => (hF_241.i h_tha (by decide) rfl j).trans (kx0 j hj)
                have kx1 : ∀ j : Nat, j < 24 → G_241.1 sa j = G.1 sa j := fun j hj => (hF_241.i h_sa (by decide) rfl j).trans (kx1 j hj)
                have k_242 : sc = G_241.1 sa 25 := k_229.trans (hF_241.i h_sa (by decide) rfl _).symm
                obtain ⟨hr_241_p0, hr_241_p1, hr_241_s0⟩ := hr_241
                have k_248 : tp = G_241.1 a 6 := k_235.trans hr_241_s0.symm
                obtain ⟨z_249, ez_249, hr_241_p0, hr_241_p1⟩ : ∃ z_249 : Int32, z_249 = G_241.1 a 7 ∧ (z_237.toInt ≤ z_249.toInt) ∧ (z_249.toInt ≤ tp.toInt) := ⟨_, rfl, hr_241_p0, hr_241_p1⟩
                have rz_249 : 0 ≤ z_249.toInt ∧ z_249.toInt ≤ 1600 := by rw [ez_249]; exact hT.rgi h_a (by decide) 7
                refine lv_goto (tgt := 183) hx hb dX10_line_176 (by decide) ?_
                exact ret_v hx hb hr hlocks ⟨⟨hS.1, hS.2.1⟩, G_241, hF, ⟨rfl, ⟨(by first | (show a0.toInt ≤ (G_241.1 a 7).toInt; rw [← ez_249]; done) | (show a0.toInt ≤ (G_241.1 a 7).toInt; rw [← ez_249]; show a0.toInt ≤ z_249.toInt; first | omega | assumption)), (by first | (show (G_241.1 a 7).toInt ≤ tp.toInt; rw [← ez_249]; done) | (show (G_241.1 a 7).toInt ≤ tp.toInt; rw [← ez_249]; show z_249.toInt ≤ tp.toInt; first | omega | assumption)), (by first | (show 1 ≤ (G_241.1 sa 25).toInt; rw [← k_242]; done) | (show 1 ≤ (G_241.1 sa 25).toInt; rw [← k_242]; show 1 ≤ sc.toInt; first | omega | assumption)), (k_248.symm.trans e_tp), kx0, kx1⟩⟩, hT⟩ hS.2.2 (Nat.le_of_ble_eq_true rfl) (Nat.le_of_ble_eq_true rfl) dX10_line_183
              · skip
                have tc_226 : ¬ z_223.toInt = 0 := fun h => c_226 ((fa_eq _ _).mpr h)
                exact ret_v hx hb hr hlocks ⟨⟨hS.1, hS.2.1⟩, G_213, hF, ⟨rfl, ⟨(by first | (show a0.toInt ≤ (G_213.1 a 7).toInt; rw [← k_221]; done) | (show a0.toInt ≤ (G_213.1 a 7).toInt; rw [← k_221]; show a0.toInt ≤ a0.toInt; first | omega | assumption)), (by first | (show (G_213.1 a 7).toInt ≤ tp.toInt; rw [← k_221]; done) | (show (G_213.1 a 7).toInt ≤ tp.toInt; rw [← k_221]; show a0.toInt ≤ tp.toInt; first | omega | assumption)), (by first | (show 1 ≤ (G_213.1 sa 25).toInt; rw [← k_216]; done) | (show 1 ≤ (G_213.1 sa 25).toInt; rw [← k_216]; show 1 ≤ sc.toInt; first | omega | assumption)), (k_220.symm.trans e_tp), kx0, kx1⟩⟩, hT⟩ hS.2.2 (Nat.le_of_ble_eq_true rfl) (Nat.le_of_ble_eq_true rfl) dX10_line_152
          · skip
            have er_179 := hr_179_1
            subst er_179
            refine W.eq (g2 := F0 m 70 ls [.int 0]) rfl ?_
            refine lv_istore_n (lv' := [(3, .int 0), (2, .int 0), (1, .int (-1)), (0, .ref a)]) hx hb dX10_line_70 rfl hl (by decide) rfl (fun ls hl => ?_)
            refine lv_iload_n hx hb dX10_line_71 rfl (lv_at hl 1 rfl) ?_
            refine lv_if_ne (tgt := 94) hx hb dX10_line_72 (by decide) (fun c_250 => absurd rfl c_250) (fun _ => ?_)
            refine lv_iload_n hx hb dX10_line_75 rfl (lv_at hl 0 rfl) ?_
            refine lv_if_ne (tgt := 94) hx hb dX10_line_76 (by decide) (fun c_251 => absurd rfl c_251) (fun _ => ?_)
            refine lv_aload_n hx hb dX10_line_79 rfl (lv_at hl 3 rfl) ?_
            refine lv_ldc2 (v := 316205) hx hb hown (hts _ kl_X10_237) dX10_line_80 ?_
            refine pu_calli (runV (As := [.long 316205]) (rest := []) ⟨hx, hb, hml, hown, hts⟩ (t_X10_is l D cy base τ G a h_a 316205 z_1 ez_1 z_2 ez_2) sV_X10_169 hK (t_recv cf_11 hK hT h_a) ⟨Nat.le_trans hZ hS.1, hT⟩ ⟨Nat.le_of_ble_eq_true rfl, Nat.le_of_ble_eq_true rfl⟩ rfl hl.1 rfl (Nat.le_of_ble_eq_true rfl) dX10_line_83 ⟨Nat.le_of_ble_eq_true rfl, Nat.le_of_ble_eq_true rfl⟩) (fun r_252 hr_252 => ?_)
            have hr_252_c := hr_252
            rcases hr_252_c with hr_252_0 | hr_252_1
            · skip
              obtain ⟨er_252, hr_252_0_f0, hr_252_0_f1⟩ := hr_252_0
              have hr_252_0_f0 : z_1.toInt = 0 := hr_252_0_f0
              have hr_252_0_f1 : z_2.toInt = 1 := hr_252_0_f1
              subst er_252
              refine W.eq (g2 := F0 m 86 ls [.int 1]) rfl ?_
              refine lv_if_ne (tgt := 94) hx hb dX10_line_86 (by decide) (fun _ => ?_) (fun c_253 => absurd c_253 (by decide))
              refine lv_iload_n hx hb dX10_line_94 rfl (lv_at hl 1 rfl) ?_
              refine lv_if_eq (tgt := 111) hx hb dX10_line_95 (by decide) (fun _ => ?_) (fun c_254 => absurd (by decide) c_254)
              refine lv_iload_n hx hb dX10_line_111 rfl (lv_at hl 0 rfl) ?_
              refine lv_if_eq (tgt := 129) hx hb dX10_line_112 (by decide) (fun _ => ?_) (fun c_255 => absurd (by decide) c_255)
              refine lv_aload_n hx hb dX10_line_129 rfl (lv_at hl 3 rfl) ?_
              refine t_getr cf_11 hx hb hts hown hK hT h_a (k := 22) (P := fun q => τ q = 72) rfl (fun _ h9 => h9) fl_X10_49 (fun _ h9 => h9) dX10_line_130 (fun q_256 eq_256 hq_256 => ?_)
              refine lv_iconst (v := 4) hx hb dX10_line_133 (by decide) ?_
              refine t_iald (n := 5) (i := 4) rfl (by decide) hx hb hK hT hq_256 (hT.len hq_256 (by decide)) ⟨by decide, by decide⟩ dX10_line_134 (fun z_257 ez_257 rz_257 => ?_)
              have ez_257 : z_257 = G.1 q_256 4 := ez_257
              have rz_257 : 0 ≤ z_257.toInt ∧ z_257.toInt ≤ 8 := rz_257
              refine lv_bipush (v := 8) hx hb dX10_line_135 (by decide) ?_
              refine lv_icmp_ne (tgt := 145) hx hb dX10_line_137 (by decide) (fun c_258 => ?_) (fun c_258 => ?_)
              · skip
                have tc_258 : ¬ z_257.toInt = 8 := fun h => c_258 ((fa_eq _ _).mpr h)
                refine lv_aload_n hx hb dX10_line_145 rfl (lv_at hl 3 rfl) ?_
                refine t_geti cf_11 hx hb hts hown hK hT h_a (k := 12) rfl fl_X10_163 (fun _ h9 => h9) dX10_line_146 (fun z_259 ez_259 rz_259 => ?_)
                have w_260 : z_1 = z_259 := ez_1.trans ez_259.symm
                subst w_260
                refine lv_if_eq (tgt := 153) hx hb dX10_line_149 (by decide) (fun c_261 => ?_) (fun c_261 => ?_)
                · skip
                  have tc_261 : z_1.toInt = 0 := (fa_eq _ _).mp c_261
                  refine lv_aload_n hx hb dX10_line_153 rfl (lv_at hl 3 rfl) ?_
                  obtain ⟨q_262, eq_262, hq_262⟩ := (show ∃ q, G.2.2.1 a 5 = some q ∧ τ q = 55 from hT.rgr h_a (by decide) 5)
                  refine t_callv (runV (As := []) (rest := []) ⟨hx, hb, hml, hown, hts⟩ (t_X10_next l D cy base τ G a h_a q_262 hq_262 eq_262 tp e_tp ⟨by omega, by omega⟩ a0 e_a0 ⟨by omega, by omega⟩ z_1 ez_1 (by show a0.toInt ≤ tp.toInt; first | assumption | omega | decide)) sV_X10_173 hK (t_recv cf_11 hK hT h_a) ⟨Nat.le_trans hZ hS.1, hT⟩ ⟨Nat.le_of_ble_eq_true rfl, Nat.le_of_ble_eq_true rfl⟩ rfl hl.1 rfl (Nat.le_of_ble_eq_true rfl) dX10_line_154 ⟨Nat.le_of_ble_eq_true rfl, Nat.le_of_ble_eq_true rfl⟩) hS (fun G_263 H locs hF_263 hr_263 hT hS => ?_)
                  have hF := hF.tr hF_263 rfl
                  have kx0 : ∀ j : Nat, j ≠ 4 → G_263.1 tha j = G.1 tha j := fun j hj => (hF_263.i h_tha (by decide) rfl j).trans (kx0 j hj)
                  have kx1 : ∀ j : Nat, j < 24 → G_263.1 sa j = G.1 sa j := fun j hj => (hF_263.i h_sa (by decide) rfl j).trans (kx1 j hj)
                  have k_266 : sc = G_263.1 sa 25 := e_sc.trans (hF_263.i h_sa (by decide) rfl _).symm
                  have k_269 : z_257 = G_263.1 q_256 4 := ez_257.trans (hF_263.i hq_256 (by decide) rfl _).symm
                  obtain ⟨hr_263_p0, hr_263_p1, hr_263_p2, hr_263_s0, hr_263_s1⟩ := hr_263
                  have k_270 : tp = G_263.1 a 6 := e_tp.trans hr_263_s0.symm
                  have k_271 : z_1 = G_263.1 a 12 := ez_1.trans hr_263_s1.symm
                  obtain ⟨z_272, z_273, ez_272, ez_273, hr_263_p0, hr_263_p1, hr_263_p2⟩ : ∃ z_272 z_273 : Int32, z_272 = G_263.1 a 7 ∧ z_273 = G_263.1 a 8 ∧ (a0.toInt ≤ z_272.toInt) ∧ (z_272.toInt ≤ tp.toInt) ∧ (z_273.toInt = 0 ∨ a0.toInt < z_272.toInt) := ⟨_, _, rfl, rfl, hr_263_p0, hr_263_p1, hr_263_p2⟩
                  have rz_272 : 0 ≤ z_272.toInt ∧ z_272.toInt ≤ 1600 := by rw [ez_272]; exact hT.rgi h_a (by decide) 7
                  refine lv_iload_n hx hb dX10_line_157 rfl (lv_at hl 1 rfl) ?_
                  refine lv_if_eq (tgt := 168) hx hb dX10_line_158 (by decide) (fun _ => ?_) (fun c_274 => absurd (by decide) c_274)
                  refine lv_iload_n hx hb dX10_line_168 rfl (lv_at hl 0 rfl) ?_
                  refine lv_if_eq (tgt := 179) hx hb dX10_line_169 (by decide) (fun _ => ?_) (fun c_275 => absurd (by decide) c_275)
                  refine lv_aload_n hx hb dX10_line_179 rfl (lv_at hl 3 rfl) ?_
                  refine t_callv (runV (As := []) (rest := []) ⟨hx, hb, hml, hown, hts⟩ (t_X10_pathLine l D cy base τ G_263 a h_a q_256 hq_256 ((hF.r h_a (by decide) rfl _).trans eq_256) tp k_270 ⟨by omega, by omega⟩ z_272 ez_272 ⟨by omega, by omega⟩ z_257 k_269 ⟨by omega, by omega⟩ (by show z_272.toInt ≤ tp.toInt; first | assumption | omega | decide)) sV_X10_245 hK (t_recv cf_11 hK hT h_a) ⟨Nat.le_trans hZ hS.1, hT⟩ ⟨Nat.le_of_ble_eq_true rfl, Nat.le_of_ble_eq_true rfl⟩ rfl hl.1 rfl (Nat.le_of_ble_eq_true rfl) dX10_line_180 ⟨Nat.le_of_ble_eq_true rfl, Nat.le_of_ble_eq_true rfl⟩) hS (fun G_276 H locs hF_276 hr_276 hT hS => ?_)
                  have hF := hF.tr hF_276 rfl
                  have kx0 : ∀ j : Nat, j ≠ 4 → G_276.1 tha j = G.1 tha j := fun j hj => (hF_276.i h_tha (by decide) rfl j).trans (kx0 j hj)
                  have kx1 : ∀ j : Nat, j < 24 → G_276.1 sa j = G.1 sa j := fun j hj => (hF_276.i h_sa (by decide) rfl j).trans (kx1 j hj)
                  have k_277 : sc = G_276.1 sa 25 := k_266.trans (hF_276.i h_sa (by decide) rfl _).symm
                  obtain ⟨hr_276_p0, hr_276_p1, hr_276_s0⟩ := hr_276
                  have k_283 : tp = G_276.1 a 6 := k_270.trans hr_276_s0.symm
                  obtain ⟨z_284, ez_284, hr_276_p0, hr_276_p1⟩ : ∃ z_284 : Int32, z_284 = G_276.1 a 7 ∧ (z_272.toInt ≤ z_284.toInt) ∧ (z_284.toInt ≤ tp.toInt) := ⟨_, rfl, hr_276_p0, hr_276_p1⟩
                  have rz_284 : 0 ≤ z_284.toInt ∧ z_284.toInt ≤ 1600 := by rw [ez_284]; exact hT.rgi h_a (by decide) 7
                  exact ret_v hx hb hr hlocks ⟨⟨hS.1, hS.2.1⟩, G_276, hF, ⟨rfl, ⟨(by first | (show a0.toInt ≤ (G_276.1 a 7).toInt; rw [← ez_284]; done) | (show a0.toInt ≤ (G_276.1 a 7).toInt; rw [← ez_284]; show a0.toInt ≤ z_284.toInt; first | omega | assumption)), (by first | (show (G_276.1 a 7).toInt ≤ tp.toInt; rw [← ez_284]; done) | (show (G_276.1 a 7).toInt ≤ tp.toInt; rw [← ez_284]; show z_284.toInt ≤ tp.toInt; first | omega | assumption)), (by first | (show 1 ≤ (G_276.1 sa 25).toInt; rw [← k_277]; done) | (show 1 ≤ (G_276.1 sa 25).toInt; rw [← k_277]; show 1 ≤ sc.toInt; first | omega | assumption)), (k_283.symm.trans e_tp), kx0, kx1⟩⟩, hT⟩ hS.2.2 (Nat.le_of_ble_eq_true rfl) (Nat.le_of_ble_eq_true rfl) dX10_line_183
                · skip
                  have tc_261 : ¬ z_1.toInt = 0 := fun h => c_261 ((fa_eq _ _).mpr h)
                  exfalso; omega
              · skip
                have tc_258 : z_257.toInt = 8 := (fa_eq _ _).mp c_258
                refine lv_aload_n hx hb dX10_line_140 rfl (lv_at hl 3 rfl) ?_
                refine lv_iconst (v := 3) hx hb dX10_line_141 (by decide) ?_
                refine t_callv (runV (As := [.int 3]) (rest := []) ⟨hx, hb, hml, hown, hts⟩ (t_X10_fails l D cy base τ G a h_a 3 (by decide) tp e_tp ⟨by omega, by omega⟩ a0 e_a0 ⟨by omega, by omega⟩ z_2 ez_2 z_1 ez_1) sV_X10_179 hK (t_recv cf_11 hK hT h_a) ⟨Nat.le_trans hZ hS.1, hT⟩ ⟨Nat.le_of_ble_eq_true rfl, Nat.le_of_ble_eq_true rfl⟩ rfl hl.1 rfl (Nat.le_of_ble_eq_true rfl) dX10_line_142 ⟨Nat.le_of_ble_eq_true rfl, Nat.le_of_ble_eq_true rfl⟩) hS (fun G_285 H locs hF_285 hr_285 hT hS => ?_)
                have hF := hF.tr hF_285 rfl
                have kx0 : ∀ j : Nat, j ≠ 4 → G_285.1 tha j = G.1 tha j := fun j hj => (hF_285.i h_tha (by decide) rfl j).trans (kx0 j hj)
                have kx1 : ∀ j : Nat, j < 24 → G_285.1 sa j = G.1 sa j := fun j hj => (hF_285.i h_sa (by decide) rfl j).trans (kx1 j hj)
                have k_288 : sc = G_285.1 sa 25 := e_sc.trans (hF_285.i h_sa (by decide) rfl _).symm
                have k_291 : z_257 = G_285.1 q_256 4 := ez_257.trans (hF_285.i hq_256 (by decide) rfl _).symm
                obtain ⟨hr_285_p0, hr_285_s0, hr_285_s1, hr_285_s2⟩ := hr_285
                have k_292 : tp = G_285.1 a 6 := e_tp.trans hr_285_s0.symm
                have k_293 : a0 = G_285.1 a 7 := e_a0.trans hr_285_s1.symm
                have k_294 : z_2 = G_285.1 a 8 := ez_2.trans hr_285_s2.symm
                obtain ⟨z_295, ez_295, hr_285_p0⟩ : ∃ z_295 : Int32, z_295 = G_285.1 a 12 ∧ (z_295.toInt ≠ 0) := ⟨_, rfl, hr_285_p0⟩
                refine lv_aload_n hx hb dX10_line_145 rfl (lv_at hl 3 rfl) ?_
                refine t_geti cf_11 hx hb hts hown hK hT h_a (k := 12) rfl fl_X10_163 (fun _ h9 => h9) dX10_line_146 (fun z_296 ez_296 rz_296 => ?_)
                have w_297 : z_295 = z_296 := ez_295.trans ez_296.symm
                subst w_297
                refine lv_if_eq (tgt := 153) hx hb dX10_line_149 (by decide) (fun c_298 => ?_) (fun c_298 => ?_)
                · skip
                  have tc_298 : z_295.toInt = 0 := (fa_eq _ _).mp c_298
                  refine lv_aload_n hx hb dX10_line_153 rfl (lv_at hl 3 rfl) ?_
                  obtain ⟨q_299, eq_299, hq_299⟩ := (show ∃ q, G_285.2.2.1 a 5 = some q ∧ τ q = 55 from hT.rgr h_a (by decide) 5)
                  have eq_299 := (hF.r h_a (by decide) rfl _).symm.trans eq_299
                  refine t_callv (runV (As := []) (rest := []) ⟨hx, hb, hml, hown, hts⟩ (t_X10_next l D cy base τ G_285 a h_a q_299 hq_299 ((hF.r h_a (by decide) rfl _).trans eq_299) tp k_292 ⟨by omega, by omega⟩ a0 k_293 ⟨by omega, by omega⟩ z_295 ez_295 (by show a0.toInt ≤ tp.toInt; first | assumption | omega | decide)) sV_X10_173 hK (t_recv cf_11 hK hT h_a) ⟨Nat.le_trans hZ hS.1, hT⟩ ⟨Nat.le_of_ble_eq_true rfl, Nat.le_of_ble_eq_true rfl⟩ rfl hl.1 rfl (Nat.le_of_ble_eq_true rfl) dX10_line_154 ⟨Nat.le_of_ble_eq_true rfl, Nat.le_of_ble_eq_true rfl⟩) hS (fun G_300 H locs hF_300 hr_300 hT hS => ?_)
                  have hF := hF.tr hF_300 rfl
                  have kx0 : ∀ j : Nat, j ≠ 4 → G_300.1 tha j = G.1 tha j := fun j hj => (hF_300.i h_tha (by decide) rfl j).trans (kx0 j hj)
                  have kx1 : ∀ j : Nat, j < 24 → G_300.1 sa j = G.1 sa j := fun j hj => (hF_300.i h_sa (by decide) rfl j).trans (kx1 j hj)
                  have k_301 : sc = G_300.1 sa 25 := k_288.trans (hF_300.i h_sa (by decide) rfl _).symm
                  have k_302 : z_257 = G_300.1 q_256 4 := k_291.trans (hF_300.i hq_256 (by decide) rfl _).symm
                  obtain ⟨hr_300_p0, hr_300_p1, hr_300_p2, hr_300_s0, hr_300_s1⟩ := hr_300
                  have k_307 : tp = G_300.1 a 6 := k_292.trans hr_300_s0.symm
                  have k_308 : z_295 = G_300.1 a 12 := ez_295.trans hr_300_s1.symm
                  obtain ⟨z_309, z_310, ez_309, ez_310, hr_300_p0, hr_300_p1, hr_300_p2⟩ : ∃ z_309 z_310 : Int32, z_309 = G_300.1 a 7 ∧ z_310 = G_300.1 a 8 ∧ (a0.toInt ≤ z_309.toInt) ∧ (z_309.toInt ≤ tp.toInt) ∧ (z_310.toInt = 0 ∨ a0.toInt < z_309.toInt) := ⟨_, _, rfl, rfl, hr_300_p0, hr_300_p1, hr_300_p2⟩
                  have rz_309 : 0 ≤ z_309.toInt ∧ z_309.toInt ≤ 1600 := by rw [ez_309]; exact hT.rgi h_a (by decide) 7
                  refine lv_iload_n hx hb dX10_line_157 rfl (lv_at hl 1 rfl) ?_
                  refine lv_if_eq (tgt := 168) hx hb dX10_line_158 (by decide) (fun _ => ?_) (fun c_311 => absurd (by decide) c_311)
                  refine lv_iload_n hx hb dX10_line_168 rfl (lv_at hl 0 rfl) ?_
                  refine lv_if_eq (tgt := 179) hx hb dX10_line_169 (by decide) (fun _ => ?_) (fun c_312 => absurd (by decide) c_312)
                  refine lv_aload_n hx hb dX10_line_179 rfl (lv_at hl 3 rfl) ?_
                  refine t_callv (runV (As := []) (rest := []) ⟨hx, hb, hml, hown, hts⟩ (t_X10_pathLine l D cy base τ G_300 a h_a q_256 hq_256 ((hF.r h_a (by decide) rfl _).trans eq_256) tp k_307 ⟨by omega, by omega⟩ z_309 ez_309 ⟨by omega, by omega⟩ z_257 k_302 ⟨by omega, by omega⟩ (by show z_309.toInt ≤ tp.toInt; first | assumption | omega | decide)) sV_X10_245 hK (t_recv cf_11 hK hT h_a) ⟨Nat.le_trans hZ hS.1, hT⟩ ⟨Nat.le_of_ble_eq_true rfl, Nat.le_of_ble_eq_true rfl⟩ rfl hl.1 rfl (Nat.le_of_ble_eq_true rfl) dX10_line_180 ⟨Nat.le_of_ble_eq_true rfl, Nat.le_of_ble_eq_true rfl⟩) hS (fun G_313 H locs hF_313 hr_313 hT hS => ?_)
                  have hF := hF.tr hF_313 rfl
                  have kx0 : ∀ j : Nat, j ≠ 4 → G_313.1 tha j = G.1 tha j := fun j hj => (hF_313.i h_tha (by decide) rfl j).trans (kx0 j hj)
                  have kx1 : ∀ j : Nat, j < 24 → G_313.1 sa j = G.1 sa j := fun j hj => (hF_313.i h_sa (by decide) rfl j).trans (kx1 j hj)
                  have k_314 : sc = G_313.1 sa 25 := k_301.trans (hF_313.i h_sa (by decide) rfl _).symm
                  obtain ⟨hr_313_p0, hr_313_p1, hr_313_s0⟩ := hr_313
                  have k_320 : tp = G_313.1 a 6 := k_307.trans hr_313_s0.symm
                  obtain ⟨z_321, ez_321, hr_313_p0, hr_313_p1⟩ : ∃ z_321 : Int32, z_321 = G_313.1 a 7 ∧ (z_309.toInt ≤ z_321.toInt) ∧ (z_321.toInt ≤ tp.toInt) := ⟨_, rfl, hr_313_p0, hr_313_p1⟩
                  have rz_321 : 0 ≤ z_321.toInt ∧ z_321.toInt ≤ 1600 := by rw [ez_321]; exact hT.rgi h_a (by decide) 7
                  exact ret_v hx hb hr hlocks ⟨⟨hS.1, hS.2.1⟩, G_313, hF, ⟨rfl, ⟨(by first | (show a0.toInt ≤ (G_313.1 a 7).toInt; rw [← ez_321]; done) | (show a0.toInt ≤ (G_313.1 a 7).toInt; rw [← ez_321]; show a0.toInt ≤ z_321.toInt; first | omega | assumption)), (by first | (show (G_313.1 a 7).toInt ≤ tp.toInt; rw [← ez_321]; done) | (show (G_313.1 a 7).toInt ≤ tp.toInt; rw [← ez_321]; show z_321.toInt ≤ tp.toInt; first | omega | assumption)), (by first | (show 1 ≤ (G_313.1 sa 25).toInt; rw [← k_314]; done) | (show 1 ≤ (G_313.1 sa 25).toInt; rw [← k_314]; show 1 ≤ sc.toInt; first | omega | assumption)), (k_320.symm.trans e_tp), kx0, kx1⟩⟩, hT⟩ hS.2.2 (Nat.le_of_ble_eq_true rfl) (Nat.le_of_ble_eq_true rfl) dX10_line_183
                · skip
                  have tc_298 : ¬ z_295.toInt = 0 := fun h => c_298 ((fa_eq _ _).mpr h)
                  exact ret_v hx hb hr hlocks ⟨⟨hS.1, hS.2.1⟩, G_285, hF, ⟨rfl, ⟨(by first | (show a0.toInt ≤ (G_285.1 a 7).toInt; rw [← k_293]; done) | (show a0.toInt ≤ (G_285.1 a 7).toInt; rw [← k_293]; show a0.toInt ≤ a0.toInt; first | omega | assumption)), (by first | (show (G_285.1 a 7).toInt ≤ tp.toInt; rw [← k_293]; done) | (show (G_285.1 a 7).toInt ≤ tp.toInt; rw [← k_293]; show a0.toInt ≤ tp.toInt; first | omega | assumption)), (by first | (show 1 ≤ (G_285.1 sa 25).toInt; rw [← k_288]; done) | (show 1 ≤ (G_285.1 sa 25).toInt; rw [← k_288]; show 1 ≤ sc.toInt; first | omega | assumption)), (k_292.symm.trans e_tp), kx0, kx1⟩⟩, hT⟩ hS.2.2 (Nat.le_of_ble_eq_true rfl) (Nat.le_of_ble_eq_true rfl) dX10_line_152
            · skip
              have er_252 := hr_252_1
              subst er_252
              refine W.eq (g2 := F0 m 86 ls [.int 0]) rfl ?_
              refine lv_if_ne (tgt := 94) hx hb dX10_line_86 (by decide) (fun c_322 => absurd rfl c_322) (fun _ => ?_)
              refine lv_aload_n hx hb dX10_line_89 rfl (lv_at hl 3 rfl) ?_
              refine lv_iconst (v := 1) hx hb dX10_line_90 (by decide) ?_
              refine t_callv (runV (As := [.int 1]) (rest := []) ⟨hx, hb, hml, hown, hts⟩ (t_X10_fails l D cy base τ G a h_a 1 (by decide) tp e_tp ⟨by omega, by omega⟩ a0 e_a0 ⟨by omega, by omega⟩ z_2 ez_2 z_1 ez_1) sV_X10_179 hK (t_recv cf_11 hK hT h_a) ⟨Nat.le_trans hZ hS.1, hT⟩ ⟨Nat.le_of_ble_eq_true rfl, Nat.le_of_ble_eq_true rfl⟩ rfl hl.1 rfl (Nat.le_of_ble_eq_true rfl) dX10_line_91 ⟨Nat.le_of_ble_eq_true rfl, Nat.le_of_ble_eq_true rfl⟩) hS (fun G_323 H locs hF_323 hr_323 hT hS => ?_)
              have hF := hF.tr hF_323 rfl
              have kx0 : ∀ j : Nat, j ≠ 4 → G_323.1 tha j = G.1 tha j := fun j hj => (hF_323.i h_tha (by decide) rfl j).trans (kx0 j hj)
              have kx1 : ∀ j : Nat, j < 24 → G_323.1 sa j = G.1 sa j := fun j hj => (hF_323.i h_sa (by decide) rfl j).trans (kx1 j hj)
              have k_326 : sc = G_323.1 sa 25 := e_sc.trans (hF_323.i h_sa (by decide) rfl _).symm
              obtain ⟨hr_323_p0, hr_323_s0, hr_323_s1, hr_323_s2⟩ := hr_323
              have k_329 : tp = G_323.1 a 6 := e_tp.trans hr_323_s0.symm
              have k_330 : a0 = G_323.1 a 7 := e_a0.trans hr_323_s1.symm
              have k_331 : z_2 = G_323.1 a 8 := ez_2.trans hr_323_s2.symm
              obtain ⟨z_332, ez_332, hr_323_p0⟩ : ∃ z_332 : Int32, z_332 = G_323.1 a 12 ∧ (z_332.toInt ≠ 0) := ⟨_, rfl, hr_323_p0⟩
              refine lv_iload_n hx hb dX10_line_94 rfl (lv_at hl 1 rfl) ?_
              refine lv_if_eq (tgt := 111) hx hb dX10_line_95 (by decide) (fun _ => ?_) (fun c_333 => absurd (by decide) c_333)
              refine lv_iload_n hx hb dX10_line_111 rfl (lv_at hl 0 rfl) ?_
              refine lv_if_eq (tgt := 129) hx hb dX10_line_112 (by decide) (fun _ => ?_) (fun c_334 => absurd (by decide) c_334)
              refine lv_aload_n hx hb dX10_line_129 rfl (lv_at hl 3 rfl) ?_
              refine t_getr cf_11 hx hb hts hown hK hT h_a (k := 22) (P := fun q => τ q = 72) rfl (fun _ h9 => h9) fl_X10_49 (fun _ h9 => h9) dX10_line_130 (fun q_335 eq_335 hq_335 => ?_)
              have eq_335 := (hF.r h_a (by decide) rfl _).symm.trans eq_335
              refine lv_iconst (v := 4) hx hb dX10_line_133 (by decide) ?_
              refine t_iald (n := 5) (i := 4) rfl (by decide) hx hb hK hT hq_335 (hT.len hq_335 (by decide)) ⟨by decide, by decide⟩ dX10_line_134 (fun z_336 ez_336 rz_336 => ?_)
              have ez_336 : z_336 = G_323.1 q_335 4 := ez_336
              have rz_336 : 0 ≤ z_336.toInt ∧ z_336.toInt ≤ 8 := rz_336
              refine lv_bipush (v := 8) hx hb dX10_line_135 (by decide) ?_
              refine lv_icmp_ne (tgt := 145) hx hb dX10_line_137 (by decide) (fun c_337 => ?_) (fun c_337 => ?_)
              · skip
                have tc_337 : ¬ z_336.toInt = 8 := fun h => c_337 ((fa_eq _ _).mpr h)
                refine lv_aload_n hx hb dX10_line_145 rfl (lv_at hl 3 rfl) ?_
                refine t_geti cf_11 hx hb hts hown hK hT h_a (k := 12) rfl fl_X10_163 (fun _ h9 => h9) dX10_line_146 (fun z_338 ez_338 rz_338 => ?_)
                have w_339 : z_332 = z_338 := ez_332.trans ez_338.symm
                subst w_339
                refine lv_if_eq (tgt := 153) hx hb dX10_line_149 (by decide) (fun c_340 => ?_) (fun c_340 => ?_)
                · skip
                  have tc_340 : z_332.toInt = 0 := (fa_eq _ _).mp c_340
                  refine lv_aload_n hx hb dX10_line_153 rfl (lv_at hl 3 rfl) ?_
                  obtain ⟨q_341, eq_341, hq_341⟩ := (show ∃ q, G_323.2.2.1 a 5 = some q ∧ τ q = 55 from hT.rgr h_a (by decide) 5)
                  have eq_341 := (hF.r h_a (by decide) rfl _).symm.trans eq_341
                  refine t_callv (runV (As := []) (rest := []) ⟨hx, hb, hml, hown, hts⟩ (t_X10_next l D cy base τ G_323 a h_a q_341 hq_341 ((hF.r h_a (by decide) rfl _).trans eq_341) tp k_329 ⟨by omega, by omega⟩ a0 k_330 ⟨by omega, by omega⟩ z_332 ez_332 (by show a0.toInt ≤ tp.toInt; first | assumption | omega | decide)) sV_X10_173 hK (t_recv cf_11 hK hT h_a) ⟨Nat.le_trans hZ hS.1, hT⟩ ⟨Nat.le_of_ble_eq_true rfl, Nat.le_of_ble_eq_true rfl⟩ rfl hl.1 rfl (Nat.le_of_ble_eq_true rfl) dX10_line_154 ⟨Nat.le_of_ble_eq_true rfl, Nat.le_of_ble_eq_true rfl⟩) hS (fun G_342 H locs hF_342 hr_342 hT hS => ?_)
                  have hF := hF.tr hF_342 rfl
                  have kx0 : ∀ j : Nat, j ≠ 4 → G_342.1 tha j = G.1 tha j := fun j hj => (hF_342.i h_tha (by decide) rfl j).trans (kx0 j hj)
                  have kx1 : ∀ j : Nat, j < 24 → G_342.1 sa j = G.1 sa j := fun j hj => (hF_342.i h_sa (by decide) rfl j).trans (kx1 j hj)
                  have k_343 : sc = G_342.1 sa 25 := k_326.trans (hF_342.i h_sa (by decide) rfl _).symm
                  have k_348 : z_336 = G_342.1 q_335 4 := ez_336.trans (hF_342.i hq_335 (by decide) rfl _).symm
                  obtain ⟨hr_342_p0, hr_342_p1, hr_342_p2, hr_342_s0, hr_342_s1⟩ := hr_342
                  have k_349 : tp = G_342.1 a 6 := k_329.trans hr_342_s0.symm
                  have k_350 : z_332 = G_342.1 a 12 := ez_332.trans hr_342_s1.symm
                  obtain ⟨z_351, z_352, ez_351, ez_352, hr_342_p0, hr_342_p1, hr_342_p2⟩ : ∃ z_351 z_352 : Int32, z_351 = G_342.1 a 7 ∧ z_352 = G_342.1 a 8 ∧ (a0.toInt ≤ z_351.toInt) ∧ (z_351.toInt ≤ tp.toInt) ∧ (z_352.toInt = 0 ∨ a0.toInt < z_351.toInt) := ⟨_, _, rfl, rfl, hr_342_p0, hr_342_p1, hr_342_p2⟩
                  have rz_351 : 0 ≤ z_351.toInt ∧ z_351.toInt ≤ 1600 := by rw [ez_351]; exact hT.rgi h_a (by decide) 7
                  refine lv_iload_n hx hb dX10_line_157 rfl (lv_at hl 1 rfl) ?_
                  refine lv_if_eq (tgt := 168) hx hb dX10_line_158 (by decide) (fun _ => ?_) (fun c_353 => absurd (by decide) c_353)
                  refine lv_iload_n hx hb dX10_line_168 rfl (lv_at hl 0 rfl) ?_
                  refine lv_if_eq (tgt := 179) hx hb dX10_line_169 (by decide) (fun _ => ?_) (fun c_354 => absurd (by decide) c_354)
                  refine lv_aload_n hx hb dX10_line_179 rfl (lv_at hl 3 rfl) ?_
                  refine t_callv (runV (As := []) (rest := []) ⟨hx, hb, hml, hown, hts⟩ (t_X10_pathLine l D cy base τ G_342 a h_a q_335 hq_335 ((hF.r h_a (by decide) rfl _).trans eq_335) tp k_349 ⟨by omega, by omega⟩ z_351 ez_351 ⟨by omega, by omega⟩ z_336 k_348 ⟨by omega, by omega⟩ (by show z_351.toInt ≤ tp.toInt; first | assumption | omega | decide)) sV_X10_245 hK (t_recv cf_11 hK hT h_a) ⟨Nat.le_trans hZ hS.1, hT⟩ ⟨Nat.le_of_ble_eq_true rfl, Nat.le_of_ble_eq_true rfl⟩ rfl hl.1 rfl (Nat.le_of_ble_eq_true rfl) dX10_line_180 ⟨Nat.le_of_ble_eq_true rfl, Nat.le_of_ble_eq_true rfl⟩) hS (fun G_355 H locs hF_355 hr_355 hT hS => ?_)
                  have hF := hF.tr hF_355 rfl
                  have kx0 : ∀ j : Nat, j ≠ 4 → G_355.1 tha j = G.1 tha j := fun j hj => (hF_355.i h_tha (by decide) rfl j).trans (kx0 j hj)
                  have kx1 : ∀ j : Nat, j < 24 → G_355.1 sa j = G.1 sa j := fun j hj => (hF_355.i h_sa (by decide) rfl j).trans (kx1 j hj)
                  have k_356 : sc = G_355.1 sa 25 := k_343.trans (hF_355.i h_sa (by decide) rfl _).symm
                  obtain ⟨hr_355_p0, hr_355_p1, hr_355_s0⟩ := hr_355
                  have k_362 : tp = G_355.1 a 6 := k_349.trans hr_355_s0.symm
                  obtain ⟨z_363, ez_363, hr_355_p0, hr_355_p1⟩ : ∃ z_363 : Int32, z_363 = G_355.1 a 7 ∧ (z_351.toInt ≤ z_363.toInt) ∧ (z_363.toInt ≤ tp.toInt) := ⟨_, rfl, hr_355_p0, hr_355_p1⟩
                  have rz_363 : 0 ≤ z_363.toInt ∧ z_363.toInt ≤ 1600 := by rw [ez_363]; exact hT.rgi h_a (by decide) 7
                  exact ret_v hx hb hr hlocks ⟨⟨hS.1, hS.2.1⟩, G_355, hF, ⟨rfl, ⟨(by first | (show a0.toInt ≤ (G_355.1 a 7).toInt; rw [← ez_363]; done) | (show a0.toInt ≤ (G_355.1 a 7).toInt; rw [← ez_363]; show a0.toInt ≤ z_363.toInt; first | omega | assumption)), (by first | (show (G_355.1 a 7).toInt ≤ tp.toInt; rw [← ez_363]; done) | (show (G_355.1 a 7).toInt ≤ tp.toInt; rw [← ez_363]; show z_363.toInt ≤ tp.toInt; first | omega | assumption)), (by first | (show 1 ≤ (G_355.1 sa 25).toInt; rw [← k_356]; done) | (show 1 ≤ (G_355.1 sa 25).toInt; rw [← k_356]; show 1 ≤ sc.toInt; first | omega | assumption)), (k_362.symm.trans e_tp), kx0, kx1⟩⟩, hT⟩ hS.2.2 (Nat.le_of_ble_eq_true rfl) (Nat.le_of_ble_eq_true rfl) dX10_line_183
                · skip
                  have tc_340 : ¬ z_332.toInt = 0 := fun h => c_340 ((fa_eq _ _).mpr h)
                  exact ret_v hx hb hr hlocks ⟨⟨hS.1, hS.2.1⟩, G_323, hF, ⟨rfl, ⟨(by first | (show a0.toInt ≤ (G_323.1 a 7).toInt; rw [← k_330]; done) | (show a0.toInt ≤ (G_323.1 a 7).toInt; rw [← k_330]; show a0.toInt ≤ a0.toInt; first | omega | assumption)), (by first | (show (G_323.1 a 7).toInt ≤ tp.toInt; rw [← k_330]; done) | (show (G_323.1 a 7).toInt ≤ tp.toInt; rw [← k_330]; show a0.toInt ≤ tp.toInt; first | omega | assumption)), (by first | (show 1 ≤ (G_323.1 sa 25).toInt; rw [← k_326]; done) | (show 1 ≤ (G_323.1 sa 25).toInt; rw [← k_326]; show 1 ≤ sc.toInt; first | omega | assumption)), (k_329.symm.trans e_tp), kx0, kx1⟩⟩, hT⟩ hS.2.2 (Nat.le_of_ble_eq_true rfl) (Nat.le_of_ble_eq_true rfl) dX10_line_152
              · skip
                have tc_337 : z_336.toInt = 8 := (fa_eq _ _).mp c_337
                refine lv_aload_n hx hb dX10_line_140 rfl (lv_at hl 3 rfl) ?_
                refine lv_iconst (v := 3) hx hb dX10_line_141 (by decide) ?_
                refine t_callv (runV (As := [.int 3]) (rest := []) ⟨hx, hb, hml, hown, hts⟩ (t_X10_fails l D cy base τ G_323 a h_a 3 (by decide) tp k_329 ⟨by omega, by omega⟩ a0 k_330 ⟨by omega, by omega⟩ z_2 k_331 z_332 ez_332) sV_X10_179 hK (t_recv cf_11 hK hT h_a) ⟨Nat.le_trans hZ hS.1, hT⟩ ⟨Nat.le_of_ble_eq_true rfl, Nat.le_of_ble_eq_true rfl⟩ rfl hl.1 rfl (Nat.le_of_ble_eq_true rfl) dX10_line_142 ⟨Nat.le_of_ble_eq_true rfl, Nat.le_of_ble_eq_true rfl⟩) hS (fun G_364 H locs hF_364 hr_364 hT hS => ?_)
                have hF := hF.tr hF_364 rfl
                have kx0 : ∀ j : Nat, j ≠ 4 → G_364.1 tha j = G.1 tha j := fun j hj => (hF_364.i h_tha (by decide) rfl j).trans (kx0 j hj)
                have kx1 : ∀ j : Nat, j < 24 → G_364.1 sa j = G.1 sa j := fun j hj => (hF_364.i h_sa (by decide) rfl j).trans (kx1 j hj)
                have k_365 : sc = G_364.1 sa 25 := k_326.trans (hF_364.i h_sa (by decide) rfl _).symm
                have k_370 : z_336 = G_364.1 q_335 4 := ez_336.trans (hF_364.i hq_335 (by decide) rfl _).symm
                obtain ⟨hr_364_p0, hr_364_s0, hr_364_s1, hr_364_s2⟩ := hr_364
                have k_371 : tp = G_364.1 a 6 := k_329.trans hr_364_s0.symm
                have k_372 : a0 = G_364.1 a 7 := k_330.trans hr_364_s1.symm
                have k_373 : z_2 = G_364.1 a 8 := k_331.trans hr_364_s2.symm
                obtain ⟨z_374, ez_374, hr_364_p0⟩ : ∃ z_374 : Int32, z_374 = G_364.1 a 12 ∧ (z_374.toInt ≠ 0) := ⟨_, rfl, hr_364_p0⟩
                refine lv_aload_n hx hb dX10_line_145 rfl (lv_at hl 3 rfl) ?_
                refine t_geti cf_11 hx hb hts hown hK hT h_a (k := 12) rfl fl_X10_163 (fun _ h9 => h9) dX10_line_146 (fun z_375 ez_375 rz_375 => ?_)
                have w_376 : z_374 = z_375 := ez_374.trans ez_375.symm
                subst w_376
                refine lv_if_eq (tgt := 153) hx hb dX10_line_149 (by decide) (fun c_377 => ?_) (fun c_377 => ?_)
                · skip
                  have tc_377 : z_374.toInt = 0 := (fa_eq _ _).mp c_377
                  refine lv_aload_n hx hb dX10_line_153 rfl (lv_at hl 3 rfl) ?_
                  obtain ⟨q_378, eq_378, hq_378⟩ := (show ∃ q, G_364.2.2.1 a 5 = some q ∧ τ q = 55 from hT.rgr h_a (by decide) 5)
                  have eq_378 := (hF.r h_a (by decide) rfl _).symm.trans eq_378
                  refine t_callv (runV (As := []) (rest := []) ⟨hx, hb, hml, hown, hts⟩ (t_X10_next l D cy base τ G_364 a h_a q_378 hq_378 ((hF.r h_a (by decide) rfl _).trans eq_378) tp k_371 ⟨by omega, by omega⟩ a0 k_372 ⟨by omega, by omega⟩ z_374 ez_374 (by show a0.toInt ≤ tp.toInt; first | assumption | omega | decide)) sV_X10_173 hK (t_recv cf_11 hK hT h_a) ⟨Nat.le_trans hZ hS.1, hT⟩ ⟨Nat.le_of_ble_eq_true rfl, Nat.le_of_ble_eq_true rfl⟩ rfl hl.1 rfl (Nat.le_of_ble_eq_true rfl) dX10_line_154 ⟨Nat.le_of_ble_eq_true rfl, Nat.le_of_ble_eq_true rfl⟩) hS (fun G_379 H locs hF_379 hr_379 hT hS => ?_)
                  have hF := hF.tr hF_379 rfl
                  have kx0 : ∀ j : Nat, j ≠ 4 → G_379.1 tha j = G.1 tha j := fun j hj => (hF_379.i h_tha (by decide) rfl j).trans (kx0 j hj)
                  have kx1 : ∀ j : Nat, j < 24 → G_379.1 sa j = G.1 sa j := fun j hj => (hF_379.i h_sa (by decide) rfl j).trans (kx1 j hj)
                  have k_380 : sc = G_379.1 sa 25 := k_365.trans (hF_379.i h_sa (by decide) rfl _).symm
                  have k_381 : z_336 = G_379.1 q_335 4 := k_370.trans (hF_379.i hq_335 (by decide) rfl _).symm
                  obtain ⟨hr_379_p0, hr_379_p1, hr_379_p2, hr_379_s0, hr_379_s1⟩ := hr_379
                  have k_386 : tp = G_379.1 a 6 := k_371.trans hr_379_s0.symm
                  have k_387 : z_374 = G_379.1 a 12 := ez_374.trans hr_379_s1.symm
                  obtain ⟨z_388, z_389, ez_388, ez_389, hr_379_p0, hr_379_p1, hr_379_p2⟩ : ∃ z_388 z_389 : Int32, z_388 = G_379.1 a 7 ∧ z_389 = G_379.1 a 8 ∧ (a0.toInt ≤ z_388.toInt) ∧ (z_388.toInt ≤ tp.toInt) ∧ (z_389.toInt = 0 ∨ a0.toInt < z_388.toInt) := ⟨_, _, rfl, rfl, hr_379_p0, hr_379_p1, hr_379_p2⟩
                  have rz_388 : 0 ≤ z_388.toInt ∧ z_388.toInt ≤ 1600 := by rw [ez_388]; exact hT.rgi h_a (by decide) 7
                  refine lv_iload_n hx hb dX10_line_157 rfl (lv_at hl 1 rfl) ?_
                  refine lv_if_eq (tgt := 168) hx hb dX10_line_158 (by decide) (fun _ => ?_) (fun c_390 => absurd (by decide) c_390)
                  refine lv_iload_n hx hb dX10_line_168 rfl (lv_at hl 0 rfl) ?_
                  refine lv_if_eq (tgt := 179) hx hb dX10_line_169 (by decide) (fun _ => ?_) (fun c_391 => absurd (by decide) c_391)
                  refine lv_aload_n hx hb dX10_line_179 rfl (lv_at hl 3 rfl) ?_
                  refine t_callv (runV (As := []) (rest := []) ⟨hx, hb, hml, hown, hts⟩ (t_X10_pathLine l D cy base τ G_379 a h_a q_335 hq_335 ((hF.r h_a (by decide) rfl _).trans eq_335) tp k_386 ⟨by omega, by omega⟩ z_388 ez_388 ⟨by omega, by omega⟩ z_336 k_381 ⟨by omega, by omega⟩ (by show z_388.toInt ≤ tp.toInt; first | assumption | omega | decide)) sV_X10_245 hK (t_recv cf_11 hK hT h_a) ⟨Nat.le_trans hZ hS.1, hT⟩ ⟨Nat.le_of_ble_eq_true rfl, Nat.le_of_ble_eq_true rfl⟩ rfl hl.1 rfl (Nat.le_of_ble_eq_true rfl) dX10_line_180 ⟨Nat.le_of_ble_eq_true rfl, Nat.le_of_ble_eq_true rfl⟩) hS (fun G_392 H locs hF_392 hr_392 hT hS => ?_)
                  have hF := hF.tr hF_392 rfl
                  have kx0 : ∀ j : Nat, j ≠ 4 → G_392.1 tha j = G.1 tha j := fun j hj => (hF_392.i h_tha (by decide) rfl j).trans (kx0 j hj)
                  have kx1 : ∀ j : Nat, j < 24 → G_392.1 sa j = G.1 sa j := fun j hj => (hF_392.i h_sa (by decide) rfl j).trans (kx1 j hj)
                  have k_393 : sc = G_392.1 sa 25 := k_380.trans (hF_392.i h_sa (by decide) rfl _).symm
                  obtain ⟨hr_392_p0, hr_392_p1, hr_392_s0⟩ := hr_392
                  have k_399 : tp = G_392.1 a 6 := k_386.trans hr_392_s0.symm
                  obtain ⟨z_400, ez_400, hr_392_p0, hr_392_p1⟩ : ∃ z_400 : Int32, z_400 = G_392.1 a 7 ∧ (z_388.toInt ≤ z_400.toInt) ∧ (z_400.toInt ≤ tp.toInt) := ⟨_, rfl, hr_392_p0, hr_392_p1⟩
                  have rz_400 : 0 ≤ z_400.toInt ∧ z_400.toInt ≤ 1600 := by rw [ez_400]; exact hT.rgi h_a (by decide) 7
                  exact ret_v hx hb hr hlocks ⟨⟨hS.1, hS.2.1⟩, G_392, hF, ⟨rfl, ⟨(by first | (show a0.toInt ≤ (G_392.1 a 7).toInt; rw [← ez_400]; done) | (show a0.toInt ≤ (G_392.1 a 7).toInt; rw [← ez_400]; show a0.toInt ≤ z_400.toInt; first | omega | assumption)), (by first | (show (G_392.1 a 7).toInt ≤ tp.toInt; rw [← ez_400]; done) | (show (G_392.1 a 7).toInt ≤ tp.toInt; rw [← ez_400]; show z_400.toInt ≤ tp.toInt; first | omega | assumption)), (by first | (show 1 ≤ (G_392.1 sa 25).toInt; rw [← k_393]; done) | (show 1 ≤ (G_392.1 sa 25).toInt; rw [← k_393]; show 1 ≤ sc.toInt; first | omega | assumption)), (k_399.symm.trans e_tp), kx0, kx1⟩⟩, hT⟩ hS.2.2 (Nat.le_of_ble_eq_true rfl) (Nat.le_of_ble_eq_true rfl) dX10_line_183
                · skip
                  have tc_377 : ¬ z_374.toInt = 0 := fun h => c_377 ((fa_eq _ _).mpr h)
                  exact ret_v hx hb hr hlocks ⟨⟨hS.1, hS.2.1⟩, G_364, hF, ⟨rfl, ⟨(by first | (show a0.toInt ≤ (G_364.1 a 7).toInt; rw [← k_372]; done) | (show a0.toInt ≤ (G_364.1 a 7).toInt; rw [← k_372]; show a0.toInt ≤ a0.toInt; first | omega | assumption)), (by first | (show (G_364.1 a 7).toInt ≤ tp.toInt; rw [← k_372]; done) | (show (G_364.1 a 7).toInt ≤ tp.toInt; rw [← k_372]; show a0.toInt ≤ tp.toInt; first | omega | assumption)), (by first | (show 1 ≤ (G_364.1 sa 25).toInt; rw [← k_365]; done) | (show 1 ≤ (G_364.1 sa 25).toInt; rw [← k_365]; show 1 ≤ sc.toInt; first | omega | assumption)), (k_371.symm.trans e_tp), kx0, kx1⟩⟩, hT⟩ hS.2.2 (Nat.le_of_ble_eq_true rfl) (Nat.le_of_ble_eq_true rfl) dX10_line_152
set_option maxHeartbeats 4000000 in
set_option maxRecDepth 100000 in
theorem t_X10_clears (l : Launch) (D : va_G) (cy : Nat → ClassId) (base : Nat) (τ : Nat → Nat) (G : Gh) (a : Nat) (h_a : τ a = 11) (tha : Nat) (h_tha : τ tha = 68) (e_tha : G.2.2.1 a 18 = some tha) (sa : Nat) (h_sa : τ sa = 74) (e_sa : G.2.2.1 a 24 = some sa) : MM l yX10_clears cX10_clears 2 none 0 0 0 D cy [.ref a] (PT D cy base τ G) (QT D cy base τ G [66, 67, 68, 70, 72, 74, 75] (fun v g => v = none ∧ ((1 ≤ (g.1 sa 25).toInt) ∧ (∀ j : Nat, j ≠ 4 → g.1 tha j = G.1 tha j) ∧ (∀ j : Nat, j < 24 → g.1 sa j = G.1 sa j)))) (RA base) := by
  refine MM.of (by decide) (Nat.le_of_ble_eq_true rfl) ?_
  intro p e s m below meth c C hPT ls hl
  obtain ⟨hx, hb, hr, hml, hown, hts, hlocks, hK, hnm⟩ := C
  obtain ⟨hZ, hT⟩ := hPT
  have hS : va_S (RA base) s.heap s.heap [] := va_S.rf
  have hF : Fr τ [66, 67, 68, 70, 72, 74, 75] G G := Fr.rf
  have kx0 : ∀ j : Nat, j ≠ 4 → G.1 tha j = G.1 tha j := fun _ _ => rfl
  have kx1 : ∀ j : Nat, j < 24 → G.1 sa j = G.1 sa j := fun _ _ => rfl
  have hl : lv_has ls 2 [(0, .ref a)] := hl
  refine lv_aload_n hx hb dX10_clears_0 rfl (lv_at hl 0 rfl) ?_
  refine t_getr cf_11 hx hb hts hown hK hT h_a (k := 16) (P := fun q => τ q = 66) rfl (fun _ h9 => h9) fl_X10_31 (fun _ h9 => h9) dX10_clears_1 (fun q_1 eq_1 hq_1 => ?_)
  refine lv_iconst (v := 4) hx hb dX10_clears_4 (by decide) ?_
  refine lv_iconst (v := 0) hx hb dX10_clears_5 (by decide) ?_
  refine t_iast (n := 5) (i := 4) (x := 0) rfl (by decide) hx hb hK hT hS hq_1 (hT.len hq_1 (by decide)) ⟨by decide, by decide⟩ trivial dX10_clears_6 (fun H locs G_2 eG_2 hT hS => ?_)
  have hF := hF.wI eG_2 hq_1 rfl
  have kx0 : ∀ j : Nat, j ≠ 4 → G_2.1 tha j = G.1 tha j := fun j hj => (by rw [eG_2]; exact (wI_ne (Or.inl (tag_ne hq_1 h_tha (by decide)))).trans (kx0 j hj))
  have kx1 : ∀ j : Nat, j < 24 → G_2.1 sa j = G.1 sa j := fun j hj => (by rw [eG_2]; exact (wI_ne (Or.inl (tag_ne hq_1 h_sa (by decide)))).trans (kx1 j hj))
  refine lv_iconst (v := 0) hx hb dX10_clears_7 (by decide) ?_
  refine lv_istore_n (lv' := [(1, .int 0), (0, .ref a)]) hx hb dX10_clears_8 rfl hl (by decide) rfl (fun ls hl => ?_)
  refine W.loop (σ := Int32 × Gh) (fun w3 H locs ls => 0 ≤ w3.1.toInt ∧ w3.1.toInt ≤ 4 ∧ (∀ j : Nat, j ≠ 4 → w3.2.1 tha j = G.1 tha j) ∧ (∀ j : Nat, j < 24 → w3.2.1 sa j = G.1 sa j) ∧ Fr τ [66, 67, 68, 70, 72, 74, 75] G w3.2 ∧ TY D cy base τ w3.2 H ∧ va_S (RA base) s.heap H locs ∧ lv_has ls 2 [(1, .int w3.1), (0, .ref a)]) (fun w3 => (4 - w3.1.toInt).toNat) ?_ ((0 : Int32), G_2) _ _ _ ⟨(by show 0 ≤ (0 : Int32).toInt; decide), (by show (0 : Int32).toInt ≤ 4; decide), kx0, kx1, hF, hT, hS, lv_sub hl [0, 1] rfl⟩
  intro w3 H locs ls hI ih3
  obtain ⟨x3_1, G_3⟩ := w3
  obtain ⟨i3_0, i3_1, kx0, kx1, hF, hT, hS, hl⟩ := hI
  have i3_0 : 0 ≤ x3_1.toInt := i3_0
  have i3_1 : x3_1.toInt ≤ 4 := i3_1
  have kx0 : (∀ j : Nat, j ≠ 4 → G_3.1 tha j = G.1 tha j) := kx0
  have kx1 : (∀ j : Nat, j < 24 → G_3.1 sa j = G.1 sa j) := kx1
  have hF : Fr τ [66, 67, 68, 70, 72, 74, 75] G G_3 := hF
  have hT : TY D cy base τ G_3 H := hT
  have hS : va_S (RA base) s.heap H locs := hS
  have hl : lv_has ls 2 [(1, .int x3_1), (0, .ref a)] := hl
  refine lv_iload_n hx hb dX10_clears_9 rfl (lv_at hl 0 rfl) ?_
  refine lv_iconst (v := 4) hx hb dX10_clears_10 (by decide) ?_
  refine lv_icmp_ge (tgt := 30) hx hb dX10_clears_11 (by decide) (fun c_4 => ?_) (fun c_4 => ?_)
  · skip
    have tc_4 : 4 ≤ x3_1.toInt := (fa_le _ _).mp c_4
    refine lv_aload_n hx hb dX10_clears_30 rfl (lv_at hl 1 rfl) ?_
    refine t_getr cf_11 hx hb hts hown hK hT h_a (k := 18) (P := fun q => τ q = 68) rfl (fun _ h9 => h9) fl_X10_37 (fun _ h9 => h9) dX10_clears_31 (fun q_5 eq_5 hq_5 => ?_)
    have w_6 : tha = q_5 := Option.some.inj (e_tha.symm.trans ((hF.r h_a (by decide) rfl _).symm.trans eq_5))
    subst w_6
    refine lv_iconst (v := 4) hx hb dX10_clears_34 (by decide) ?_
    refine lv_iconst (v := 0) hx hb dX10_clears_35 (by decide) ?_
    refine t_iast (n := 5) (i := 4) (x := 0) rfl (by decide) hx hb hK hT hS h_tha (hT.len h_tha (by decide)) ⟨by decide, by decide⟩ (show 0 ≤ (0 : Int32).toInt ∧ (0 : Int32).toInt ≤ 3 from by decide) dX10_clears_36 (fun H locs G_7 eG_7 hT hS => ?_)
    have hF := hF.wI eG_7 h_tha rfl
    have kx0 : ∀ j : Nat, j ≠ 4 → G_7.1 tha j = G.1 tha j := fun j hj => (by rw [eG_7]; exact (wI_ne (k := 4) (Or.inr (by omega))).trans (kx0 j hj))
    have kx1 : ∀ j : Nat, j < 24 → G_7.1 sa j = G.1 sa j := fun j hj => (by rw [eG_7]; exact (wI_ne (Or.inl (tag_ne h_tha h_sa (by decide)))).trans (kx1 j hj))
    refine lv_aload_n hx hb dX10_clears_37 rfl (lv_at hl 1 rfl) ?_
    refine t_getr cf_11 hx hb hts hown hK hT h_a (k := 20) (P := fun q => τ q = 70) rfl (fun _ h9 => h9) fl_X10_43 (fun _ h9 => h9) dX10_clears_38 (fun q_8 eq_8 hq_8 => ?_)
    have eq_8 := (hF.r h_a (by decide) rfl _).symm.trans eq_8
    refine lv_iconst (v := 4) hx hb dX10_clears_41 (by decide) ?_
    refine lv_iconst (v := 0) hx hb dX10_clears_42 (by decide) ?_
    refine t_iast (n := 5) (i := 4) (x := 0) rfl (by decide) hx hb hK hT hS hq_8 (hT.len hq_8 (by decide)) ⟨by decide, by decide⟩ (show 0 ≤ (0 : Int32).toInt ∧ (0 : Int32).toInt ≤ 6 from by decide) dX10_clears_43 (fun H locs G_9 eG_9 hT hS => ?_)
    have hF := hF.wI eG_9 hq_8 rfl
    have kx0 : ∀ j : Nat, j ≠ 4 → G_9.1 tha j = G.1 tha j := fun j hj => (by rw [eG_9]; exact (wI_ne (Or.inl (tag_ne hq_8 h_tha (by decide)))).trans (kx0 j hj))
    have kx1 : ∀ j : Nat, j < 24 → G_9.1 sa j = G.1 sa j := fun j hj => (by rw [eG_9]; exact (wI_ne (Or.inl (tag_ne hq_8 h_sa (by decide)))).trans (kx1 j hj))
    refine lv_aload_n hx hb dX10_clears_44 rfl (lv_at hl 1 rfl) ?_
    refine t_getr cf_11 hx hb hts hown hK hT h_a (k := 22) (P := fun q => τ q = 72) rfl (fun _ h9 => h9) fl_X10_49 (fun _ h9 => h9) dX10_clears_45 (fun q_10 eq_10 hq_10 => ?_)
    have eq_10 := (hF.r h_a (by decide) rfl _).symm.trans eq_10
    refine lv_iconst (v := 4) hx hb dX10_clears_48 (by decide) ?_
    refine lv_iconst (v := 0) hx hb dX10_clears_49 (by decide) ?_
    refine t_iast (n := 5) (i := 4) (x := 0) rfl (by decide) hx hb hK hT hS hq_10 (hT.len hq_10 (by decide)) ⟨by decide, by decide⟩ (show 0 ≤ (0 : Int32).toInt ∧ (0 : Int32).toInt ≤ 8 from by decide) dX10_clears_50 (fun H locs G_11 eG_11 hT hS => ?_)
    have hF := hF.wI eG_11 hq_10 rfl
    have kx0 : ∀ j : Nat, j ≠ 4 → G_11.1 tha j = G.1 tha j := fun j hj => (by rw [eG_11]; exact (wI_ne (Or.inl (tag_ne hq_10 h_tha (by decide)))).trans (kx0 j hj))
    have kx1 : ∀ j : Nat, j < 24 → G_11.1 sa j = G.1 sa j := fun j hj => (by rw [eG_11]; exact (wI_ne (Or.inl (tag_ne hq_10 h_sa (by decide)))).trans (kx1 j hj))
    refine lv_iconst (v := 0) hx hb dX10_clears_51 (by decide) ?_
    refine lv_istore_n (lv' := [(1, .int 0), (0, .ref a)]) hx hb dX10_clears_52 rfl hl (by decide) rfl (fun ls hl => ?_)
    refine W.loop (σ := Int32 × Gh) (fun w12 H locs ls => 0 ≤ w12.1.toInt ∧ w12.1.toInt ≤ 6 ∧ (w12.1.toInt ≤ 1 ∨ 1 ≤ (w12.2.1 sa 25).toInt) ∧ (∀ j : Nat, j ≠ 4 → w12.2.1 tha j = G.1 tha j) ∧ (∀ j : Nat, j < 24 → w12.2.1 sa j = G.1 sa j) ∧ Fr τ [66, 67, 68, 70, 72, 74, 75] G w12.2 ∧ TY D cy base τ w12.2 H ∧ va_S (RA base) s.heap H locs ∧ lv_has ls 2 [(1, .int w12.1), (0, .ref a)]) (fun w12 => (6 - w12.1.toInt).toNat) ?_ ((0 : Int32), G_11) _ _ _ ⟨(by show 0 ≤ (0 : Int32).toInt; decide), (by show (0 : Int32).toInt ≤ 6; decide), (by show (0 : Int) ≤ 1 ∨ 1 ≤ (G_11.1 sa 25).toInt; exact Or.inl (by decide)), kx0, kx1, hF, hT, hS, lv_sub hl [0, 1] rfl⟩
    intro w12 H locs ls hI ih12
    obtain ⟨x12_1, G_12⟩ := w12
    obtain ⟨i12_0, i12_1, i12_2, kx0, kx1, hF, hT, hS, hl⟩ := hI
    have i12_0 : 0 ≤ x12_1.toInt := i12_0
    have i12_1 : x12_1.toInt ≤ 6 := i12_1
    have i12_2 : (x12_1.toInt ≤ 1 ∨ 1 ≤ (G_12.1 sa 25).toInt) := i12_2
    have kx0 : (∀ j : Nat, j ≠ 4 → G_12.1 tha j = G.1 tha j) := kx0
    have kx1 : (∀ j : Nat, j < 24 → G_12.1 sa j = G.1 sa j) := kx1
    have hF : Fr τ [66, 67, 68, 70, 72, 74, 75] G G_12 := hF
    have hT : TY D cy base τ G_12 H := hT
    have hS : va_S (RA base) s.heap H locs := hS
    have hl : lv_has ls 2 [(1, .int x12_1), (0, .ref a)] := hl
    refine lv_iload_n hx hb dX10_clears_53 rfl (lv_at hl 0 rfl) ?_
    refine lv_bipush (v := 6) hx hb dX10_clears_54 (by decide) ?_
    refine lv_icmp_ge (tgt := 93) hx hb dX10_clears_56 (by decide) (fun c_13 => ?_) (fun c_13 => ?_)
    · skip
      have tc_13 : 6 ≤ x12_1.toInt := (fa_le _ _).mp c_13
      obtain ⟨z_14, ez_14⟩ : ∃ y : Int32, y = G_12.1 sa 25 := ⟨_, rfl⟩
      have qz_14 : (25 % 6 = 0 → 0 ≤ z_14.toInt ∧ z_14.toInt ≤ 9) ∧ (25 % 6 = 1 → 0 ≤ z_14.toInt ∧ z_14.toInt ≤ 50) ∧ (25 % 6 = 3 → 0 ≤ z_14.toInt ∧ z_14.toInt ≤ 50) := by rw [ez_14]; exact hT.rgi h_sa (by decide) 25
      have rz_14 : 0 ≤ z_14.toInt ∧ z_14.toInt ≤ 50 := by omega
      have o_z_14 : 1 ≤ z_14.toInt := by rw [ez_14]; omega
      refine lv_iconst (v := 0) hx hb dX10_clears_93 (by decide) ?_
      refine lv_istore_n (lv' := [(1, .int 0), (0, .ref a)]) hx hb dX10_clears_94 rfl hl (by decide) rfl (fun ls hl => ?_)
      refine W.loop (σ := Int32 × Gh) (fun w15 H locs ls => 0 ≤ w15.1.toInt ∧ w15.1.toInt ≤ 3 ∧ z_14 = w15.2.1 sa 25 ∧ (∀ j : Nat, j ≠ 4 → w15.2.1 tha j = G.1 tha j) ∧ (∀ j : Nat, j < 24 → w15.2.1 sa j = G.1 sa j) ∧ Fr τ [66, 67, 68, 70, 72, 74, 75] G w15.2 ∧ TY D cy base τ w15.2 H ∧ va_S (RA base) s.heap H locs ∧ lv_has ls 2 [(1, .int w15.1), (0, .ref a)]) (fun w15 => (3 - w15.1.toInt).toNat) ?_ ((0 : Int32), G_12) _ _ _ ⟨(by show 0 ≤ (0 : Int32).toInt; decide), (by show (0 : Int32).toInt ≤ 3; decide), (by show z_14 = G_12.1 sa 25; exact ez_14), kx0, kx1, hF, hT, hS, lv_sub hl [0, 1] rfl⟩
      intro w15 H locs ls hI ih15
      obtain ⟨x15_1, G_15⟩ := w15
      obtain ⟨i15_0, i15_1, i15_2, kx0, kx1, hF, hT, hS, hl⟩ := hI
      have i15_0 : 0 ≤ x15_1.toInt := i15_0
      have i15_1 : x15_1.toInt ≤ 3 := i15_1
      have i15_2 : z_14 = G_15.1 sa 25 := i15_2
      have kx0 : (∀ j : Nat, j ≠ 4 → G_15.1 tha j = G.1 tha j) := kx0
      have kx1 : (∀ j : Nat, j < 24 → G_15.1 sa j = G.1 sa j) := kx1
      have hF : Fr τ [66, 67, 68, 70, 72, 74, 75] G G_15 := hF
      have hT : TY D cy base τ G_15 H := hT
      have hS : va_S (RA base) s.heap H locs := hS
      have hl : lv_has ls 2 [(1, .int x15_1), (0, .ref a)] := hl
      refine lv_iload_n hx hb dX10_clears_95 rfl (lv_at hl 0 rfl) ?_
      refine lv_iconst (v := 3) hx hb dX10_clears_96 (by decide) ?_
      refine lv_icmp_ge (tgt := 116) hx hb dX10_clears_97 (by decide) (fun c_16 => ?_) (fun c_16 => ?_)
      · skip
        have tc_16 : 3 ≤ x15_1.toInt := (fa_le _ _).mp c_16
        exact ret_v hx hb hr hlocks ⟨⟨hS.1, hS.2.1⟩, G_15, hF, ⟨rfl, ⟨(by first | (show 1 ≤ (G_15.1 sa 25).toInt; rw [← i15_2]; done) | (show 1 ≤ (G_15.1 sa 25).toInt; rw [← i15_2]; show 1 ≤ z_14.toInt; first | omega | assumption)), kx0, kx1⟩⟩, hT⟩ hS.2.2 (Nat.le_of_ble_eq_true rfl) (Nat.le_of_ble_eq_true rfl) dX10_clears_116
      · skip
        have tc_16 : ¬ 3 ≤ x15_1.toInt := fun h => c_16 ((fa_le _ _).mpr h)
        refine lv_aload_n hx hb dX10_clears_100 rfl (lv_at hl 1 rfl) ?_
        refine t_getr cf_11 hx hb hts hown hK hT h_a (k := 25) (P := fun q => τ q = 75) rfl (fun _ h9 => h9) fl_X10_58 (fun _ h9 => h9) dX10_clears_101 (fun q_17 eq_17 hq_17 => ?_)
        have eq_17 := (hF.r h_a (by decide) rfl _).symm.trans eq_17
        refine lv_bipush (v := 12) hx hb dX10_clears_104 (by decide) ?_
        refine lv_iload_n hx hb dX10_clears_106 rfl (lv_at hl 0 rfl) ?_
        refine lv_iadd hx hb dX10_clears_107 ?_
        refine lv_topi (fun z_18 ez_18 => ?_)
        have tz_18 : z_18.toInt = 12 + x15_1.toInt := add_t ez_18 (show -2147483648 ≤ 12 + x15_1.toInt by omega) (show 12 + x15_1.toInt < 2147483648 by omega)
        refine lv_iconst (v := 0) hx hb dX10_clears_108 (by decide) ?_
        refine t_zast (n := 15) (i := z_18) (x := 0) rfl (by decide) hx hb hK hT hS hq_17 (hT.len hq_17 (by decide)) ⟨by omega, by omega⟩ trivial dX10_clears_109 (fun H locs G_19 eG_19 hT hS => ?_)
        have hF := hF.wI eG_19 hq_17 rfl
        have kx0 : ∀ j : Nat, j ≠ 4 → G_19.1 tha j = G.1 tha j := fun j hj => (by rw [eG_19]; exact (wI_ne (Or.inl (tag_ne hq_17 h_tha (by decide)))).trans (kx0 j hj))
        have kx1 : ∀ j : Nat, j < 24 → G_19.1 sa j = G.1 sa j := fun j hj => (by rw [eG_19]; exact (wI_ne (Or.inl (tag_ne hq_17 h_sa (by decide)))).trans (kx1 j hj))
        have k_20 : z_14 = G_19.1 sa 25 := by rw [eG_19, wI_ne (Or.inl (tag_ne hq_17 h_sa (by decide)))]; exact i15_2
        obtain ⟨z_21, ez_21⟩ : ∃ y : Int32, y = x15_1 + 1 := ⟨_, rfl⟩
        have tz_21 : z_21.toInt = x15_1.toInt + 1 := add_t ez_21 (show -2147483648 ≤ x15_1.toInt + 1 by omega) (show x15_1.toInt + 1 < 2147483648 by omega)
        refine lv_iinc (v := z_21) (lv' := [(1, .int z_21), (0, .ref a)]) hx hb dX10_clears_110 hl (k := 0) rfl (by rw [ez_21]; rfl) (by decide) rfl (fun ls hl => ?_)
        refine lv_goto (tgt := 95) hx hb dX10_clears_113 (by decide) ?_
        exact ih15 (z_21, G_19) _ _ _ (by show (3 - z_21.toInt).toNat < (3 - x15_1.toInt).toNat; omega) ⟨(by show 0 ≤ z_21.toInt; omega), (by show z_21.toInt ≤ 3; omega), (show z_14 = G_19.1 sa 25 from by first | exact k_20 | omega), kx0, kx1, hF, hT, hS, lv_sub hl [0, 1] rfl⟩
    · skip
      have tc_13 : ¬ 6 ≤ x12_1.toInt := fun h => c_13 ((fa_le _ _).mpr h)
      refine lv_aload_n hx hb dX10_clears_59 rfl (lv_at hl 1 rfl) ?_
      refine t_getr cf_11 hx hb hts hown hK hT h_a (k := 24) (P := fun q => τ q = 74) rfl (fun _ h9 => h9) fl_X10_55 (fun _ h9 => h9) dX10_clears_60 (fun q_22 eq_22 hq_22 => ?_)
      have w_23 : sa = q_22 := Option.some.inj (e_sa.symm.trans ((hF.r h_a (by decide) rfl _).symm.trans eq_22))
      subst w_23
      refine lv_bipush (v := 24) hx hb dX10_clears_63 (by decide) ?_
      refine lv_iload_n hx hb dX10_clears_65 rfl (lv_at hl 0 rfl) ?_
      refine lv_iadd hx hb dX10_clears_66 ?_
      refine lv_topi (fun z_24 ez_24 => ?_)
      have tz_24 : z_24.toInt = 24 + x12_1.toInt := add_t ez_24 (show -2147483648 ≤ 24 + x12_1.toInt by omega) (show 24 + x12_1.toInt < 2147483648 by omega)
      refine lv_iload_n hx hb dX10_clears_67 rfl (lv_at hl 0 rfl) ?_
      refine lv_if_ne (tgt := 75) hx hb dX10_clears_68 (by decide) (fun c_25 => ?_) (fun c_25 => ?_)
      · skip
        have tc_25 : ¬ x12_1.toInt = 0 := fun h => c_25 ((fa_eq _ _).mpr h)
        refine lv_iload_n hx hb dX10_clears_75 rfl (lv_at hl 0 rfl) ?_
        refine lv_iconst (v := 1) hx hb dX10_clears_76 (by decide) ?_
        refine lv_icmp_ne (tgt := 85) hx hb dX10_clears_77 (by decide) (fun c_26 => ?_) (fun c_26 => ?_)
        · skip
          have tc_26 : ¬ x12_1.toInt = 1 := fun h => c_26 ((fa_eq _ _).mpr h)
          refine lv_iconst (v := 0) hx hb dX10_clears_85 (by decide) ?_
          refine t_iast (n := 30) (i := z_24) (x := 0) rfl (by decide) hx hb hK hT hS h_sa (hT.len h_sa (by decide)) ⟨by omega, by omega⟩ (show (z_24.toInt.toNat % 6 = 0 → 0 ≤ (0 : Int32).toInt ∧ (0 : Int32).toInt ≤ 9) ∧ (z_24.toInt.toNat % 6 = 1 → 0 ≤ (0 : Int32).toInt ∧ (0 : Int32).toInt ≤ 50) ∧ (z_24.toInt.toNat % 6 = 3 → 0 ≤ (0 : Int32).toInt ∧ (0 : Int32).toInt ≤ 50) from by (have e9 : (0 : Int32).toInt = 0 := rfl); omega) dX10_clears_86 (fun H locs G_27 eG_27 hT hS => ?_)
          have hF := hF.wI eG_27 h_sa rfl
          have kx0 : ∀ j : Nat, j ≠ 4 → G_27.1 tha j = G.1 tha j := fun j hj => (by rw [eG_27]; exact (wI_ne (Or.inl (tag_ne h_sa h_tha (by decide)))).trans (kx0 j hj))
          have kx1 : ∀ j : Nat, j < 24 → G_27.1 sa j = G.1 sa j := fun j hj => (by rw [eG_27]; exact (wI_ne (Or.inr (by show j ≠ z_24.toInt.toNat; omega))).trans (kx1 j hj))
          obtain ⟨z_28, ez_28⟩ : ∃ y : Int32, y = x12_1 + 1 := ⟨_, rfl⟩
          have tz_28 : z_28.toInt = x12_1.toInt + 1 := add_t ez_28 (show -2147483648 ≤ x12_1.toInt + 1 by omega) (show x12_1.toInt + 1 < 2147483648 by omega)
          refine lv_iinc (v := z_28) (lv' := [(1, .int z_28), (0, .ref a)]) hx hb dX10_clears_87 hl (k := 0) rfl (by rw [ez_28]; rfl) (by decide) rfl (fun ls hl => ?_)
          refine lv_goto (tgt := 53) hx hb dX10_clears_90 (by decide) ?_
          exact ih12 (z_28, G_27) _ _ _ (by show (6 - z_28.toInt).toNat < (6 - x12_1.toInt).toNat; omega) ⟨(by show 0 ≤ z_28.toInt; omega), (by show z_28.toInt ≤ 6; omega), by show z_28.toInt ≤ 1 ∨ 1 ≤ (G_27.1 sa 25).toInt; exact (Classical.em (z_24.toInt = 25)).elim (fun h9 => Or.inr (by rw [eG_27, show (25 : Nat) = z_24.toNatClampNeg from (by show (25 : Nat) = z_24.toInt.toNat; omega), wI_at]; exfalso; omega)) (fun h9 => i12_2.elim (fun h8 => Or.inl (by omega)) (fun h8 => Or.inr (by rw [eG_27, wI_ne (Or.inr (by show (25 : Nat) ≠ z_24.toInt.toNat; omega))]; exact h8))), kx0, kx1, hF, hT, hS, lv_sub hl [0, 1] rfl⟩
        · skip
          have tc_26 : x12_1.toInt = 1 := (fa_eq _ _).mp c_26
          refine lv_bipush (v := 10) hx hb dX10_clears_80 (by decide) ?_
          refine lv_goto (tgt := 86) hx hb dX10_clears_82 (by decide) ?_
          refine t_iast (n := 30) (i := z_24) (x := 10) rfl (by decide) hx hb hK hT hS h_sa (hT.len h_sa (by decide)) ⟨by omega, by omega⟩ (show (z_24.toInt.toNat % 6 = 0 → 0 ≤ (10 : Int32).toInt ∧ (10 : Int32).toInt ≤ 9) ∧ (z_24.toInt.toNat % 6 = 1 → 0 ≤ (10 : Int32).toInt ∧ (10 : Int32).toInt ≤ 50) ∧ (z_24.toInt.toNat % 6 = 3 → 0 ≤ (10 : Int32).toInt ∧ (10 : Int32).toInt ≤ 50) from by (have e9 : (10 : Int32).toInt = 10 := rfl); omega) dX10_clears_86 (fun H locs G_29 eG_29 hT hS => ?_)
          have hF := hF.wI eG_29 h_sa rfl
          have kx0 : ∀ j : Nat, j ≠ 4 → G_29.1 tha j = G.1 tha j := fun j hj => (by rw [eG_29]; exact (wI_ne (Or.inl (tag_ne h_sa h_tha (by decide)))).trans (kx0 j hj))
          have kx1 : ∀ j : Nat, j < 24 → G_29.1 sa j = G.1 sa j := fun j hj => (by rw [eG_29]; exact (wI_ne (Or.inr (by show j ≠ z_24.toInt.toNat; omega))).trans (kx1 j hj))
          obtain ⟨z_30, ez_30⟩ : ∃ y : Int32, y = x12_1 + 1 := ⟨_, rfl⟩
          have tz_30 : z_30.toInt = x12_1.toInt + 1 := add_t ez_30 (show -2147483648 ≤ x12_1.toInt + 1 by omega) (show x12_1.toInt + 1 < 2147483648 by omega)
          refine lv_iinc (v := z_30) (lv' := [(1, .int z_30), (0, .ref a)]) hx hb dX10_clears_87 hl (k := 0) rfl (by rw [ez_30]; rfl) (by decide) rfl (fun ls hl => ?_)
          refine lv_goto (tgt := 53) hx hb dX10_clears_90 (by decide) ?_
          exact ih12 (z_30, G_29) _ _ _ (by show (6 - z_30.toInt).toNat < (6 - x12_1.toInt).toNat; omega) ⟨(by show 0 ≤ z_30.toInt; omega), (by show z_30.toInt ≤ 6; omega), by show z_30.toInt ≤ 1 ∨ 1 ≤ (G_29.1 sa 25).toInt; exact (Classical.em (z_24.toInt = 25)).elim (fun h9 => Or.inr (by rw [eG_29, show (25 : Nat) = z_24.toNatClampNeg from (by show (25 : Nat) = z_24.toInt.toNat; omega), wI_at]; show (1 : Int) ≤ (10 : Int32).toInt; decide)) (fun h9 => i12_2.elim (fun h8 => Or.inl (by omega)) (fun h8 => Or.inr (by rw [eG_29, wI_ne (Or.inr (by show (25 : Nat) ≠ z_24.toInt.toNat; omega))]; exact h8))), kx0, kx1, hF, hT, hS, lv_sub hl [0, 1] rfl⟩
      · skip
        have tc_25 : x12_1.toInt = 0 := (fa_eq _ _).mp c_25
        refine lv_iconst (v := 1) hx hb dX10_clears_71 (by decide) ?_
        refine lv_goto (tgt := 86) hx hb dX10_clears_72 (by decide) ?_
        refine t_iast (n := 30) (i := z_24) (x := 1) rfl (by decide) hx hb hK hT hS h_sa (hT.len h_sa (by decide)) ⟨by omega, by omega⟩ (show (z_24.toInt.toNat % 6 = 0 → 0 ≤ (1 : Int32).toInt ∧ (1 : Int32).toInt ≤ 9) ∧ (z_24.toInt.toNat % 6 = 1 → 0 ≤ (1 : Int32).toInt ∧ (1 : Int32).toInt ≤ 50) ∧ (z_24.toInt.toNat % 6 = 3 → 0 ≤ (1 : Int32).toInt ∧ (1 : Int32).toInt ≤ 50) from by (have e9 : (1 : Int32).toInt = 1 := rfl); omega) dX10_clears_86 (fun H locs G_31 eG_31 hT hS => ?_)
        have hF := hF.wI eG_31 h_sa rfl
        have kx0 : ∀ j : Nat, j ≠ 4 → G_31.1 tha j = G.1 tha j := fun j hj => (by rw [eG_31]; exact (wI_ne (Or.inl (tag_ne h_sa h_tha (by decide)))).trans (kx0 j hj))
        have kx1 : ∀ j : Nat, j < 24 → G_31.1 sa j = G.1 sa j := fun j hj => (by rw [eG_31]; exact (wI_ne (Or.inr (by show j ≠ z_24.toInt.toNat; omega))).trans (kx1 j hj))
        obtain ⟨z_32, ez_32⟩ : ∃ y : Int32, y = x12_1 + 1 := ⟨_, rfl⟩
        have tz_32 : z_32.toInt = x12_1.toInt + 1 := add_t ez_32 (show -2147483648 ≤ x12_1.toInt + 1 by omega) (show x12_1.toInt + 1 < 2147483648 by omega)
        refine lv_iinc (v := z_32) (lv' := [(1, .int z_32), (0, .ref a)]) hx hb dX10_clears_87 hl (k := 0) rfl (by rw [ez_32]; rfl) (by decide) rfl (fun ls hl => ?_)
        refine lv_goto (tgt := 53) hx hb dX10_clears_90 (by decide) ?_
        exact ih12 (z_32, G_31) _ _ _ (by show (6 - z_32.toInt).toNat < (6 - x12_1.toInt).toNat; omega) ⟨(by show 0 ≤ z_32.toInt; omega), (by show z_32.toInt ≤ 6; omega), by show z_32.toInt ≤ 1 ∨ 1 ≤ (G_31.1 sa 25).toInt; exact (Classical.em (z_24.toInt = 25)).elim (fun h9 => Or.inr (by rw [eG_31, show (25 : Nat) = z_24.toNatClampNeg from (by show (25 : Nat) = z_24.toInt.toNat; omega), wI_at]; show (1 : Int) ≤ (1 : Int32).toInt; decide)) (fun h9 => i12_2.elim (fun h8 => Or.inl (by omega)) (fun h8 => Or.inr (by rw [eG_31, wI_ne (Or.inr (by show (25 : Nat) ≠ z_24.toInt.toNat; omega))]; exact h8))), kx0, kx1, hF, hT, hS, lv_sub hl [0, 1] rfl⟩
  · skip
    have tc_4 : ¬ 4 ≤ x3_1.toInt := fun h => c_4 ((fa_le _ _).mpr h)
    refine lv_aload_n hx hb dX10_clears_14 rfl (lv_at hl 1 rfl) ?_
    refine t_getr cf_11 hx hb hts hown hK hT h_a (k := 17) (P := fun q => τ q = 67) rfl (fun _ h9 => h9) fl_X10_34 (fun _ h9 => h9) dX10_clears_15 (fun q_33 eq_33 hq_33 => ?_)
    have eq_33 := (hF.r h_a (by decide) rfl _).symm.trans eq_33
    refine lv_bipush (v := 16) hx hb dX10_clears_18 (by decide) ?_
    refine lv_iload_n hx hb dX10_clears_20 rfl (lv_at hl 0 rfl) ?_
    refine lv_iadd hx hb dX10_clears_21 ?_
    refine lv_topi (fun z_34 ez_34 => ?_)
    have tz_34 : z_34.toInt = 16 + x3_1.toInt := add_t ez_34 (show -2147483648 ≤ 16 + x3_1.toInt by omega) (show 16 + x3_1.toInt < 2147483648 by omega)
    refine lv_iconst (v := 0) hx hb dX10_clears_22 (by decide) ?_
    refine t_iast (n := 20) (i := z_34) (x := 0) rfl (by decide) hx hb hK hT hS hq_33 (hT.len hq_33 (by decide)) ⟨by omega, by omega⟩ (show (z_34.toInt.toNat % 4 = 0 → 0 ≤ (0 : Int32).toInt ∧ (0 : Int32).toInt ≤ 60) from by (have e9 : (0 : Int32).toInt = 0 := rfl); omega) dX10_clears_23 (fun H locs G_35 eG_35 hT hS => ?_)
    have hF := hF.wI eG_35 hq_33 rfl
    have kx0 : ∀ j : Nat, j ≠ 4 → G_35.1 tha j = G.1 tha j := fun j hj => (by rw [eG_35]; exact (wI_ne (Or.inl (tag_ne hq_33 h_tha (by decide)))).trans (kx0 j hj))
    have kx1 : ∀ j : Nat, j < 24 → G_35.1 sa j = G.1 sa j := fun j hj => (by rw [eG_35]; exact (wI_ne (Or.inl (tag_ne hq_33 h_sa (by decide)))).trans (kx1 j hj))
    obtain ⟨z_36, ez_36⟩ : ∃ y : Int32, y = x3_1 + 1 := ⟨_, rfl⟩
    have tz_36 : z_36.toInt = x3_1.toInt + 1 := add_t ez_36 (show -2147483648 ≤ x3_1.toInt + 1 by omega) (show x3_1.toInt + 1 < 2147483648 by omega)
    refine lv_iinc (v := z_36) (lv' := [(1, .int z_36), (0, .ref a)]) hx hb dX10_clears_24 hl (k := 0) rfl (by rw [ez_36]; rfl) (by decide) rfl (fun ls hl => ?_)
    refine lv_goto (tgt := 9) hx hb dX10_clears_27 (by decide) ?_
    exact ih3 (z_36, G_35) _ _ _ (by show (4 - z_36.toInt).toNat < (4 - x3_1.toInt).toNat; omega) ⟨(by show 0 ≤ z_36.toInt; omega), (by show z_36.toInt ≤ 4; omega), kx0, kx1, hF, hT, hS, lv_sub hl [0, 1] rfl⟩
set_option maxHeartbeats 4000000 in
set_option maxRecDepth 100000 in
theorem t_X10_copyRow_66 (l : Launch) (D : va_G) (cy : Nat → ClassId) (base : Nat) (τ : Nat → Nat) (G : Gh) (ar : Nat) (h_ar : τ ar = 66) (x : Int32) (r_x : 0 ≤ x.toInt ∧ x.toInt ≤ 4) (y : Int32) (r_y : 0 ≤ y.toInt ∧ y.toInt ≤ 4) : MM l yX10_copyRow cX10_copyRow 5 none 0 0 0 D cy [.ref ar, .int 1, .int x, .int y] (PT D cy base τ G) (QT D cy base τ G [66] (fun v g => v = none ∧ ((∀ j : Nat, g.1 ar j = if 1 * y.toInt.toNat ≤ j ∧ j < 1 * y.toInt.toNat + 1 then G.1 ar (1 * x.toInt.toNat + (j - 1 * y.toInt.toNat)) else G.1 ar j)))) (RA base) := by
  refine MM.of (by decide) (Nat.le_of_ble_eq_true rfl) ?_
  intro p e s m below meth c C hPT ls hl
  obtain ⟨hx, hb, hr, hml, hown, hts, hlocks, hK, hnm⟩ := C
  obtain ⟨hZ, hT⟩ := hPT
  have hS : va_S (RA base) s.heap s.heap [] := va_S.rf
  have hF : Fr τ [66] G G := Fr.rf
  have hl : lv_has ls 5 [(0, .ref ar), (1, .int 1), (2, .int x), (3, .int y)] := hl
  refine lv_iconst (v := 0) hx hb dX10_copyRow_0 (by decide) ?_
  refine lv_istore (lv' := [(4, .int 0), (0, .ref ar), (1, .int 1), (2, .int x), (3, .int y)]) hx hb dX10_copyRow_1 hl (by decide) rfl (fun ls hl => ?_)
  refine W.loop (σ := Int32 × Gh) (fun w1 H locs ls => 0 ≤ w1.1.toInt ∧ w1.1.toInt ≤ 1 ∧ (∀ j : Nat, w1.2.1 ar j = if 1 * y.toInt.toNat ≤ j ∧ j < 1 * y.toInt.toNat + w1.1.toInt.toNat then G.1 ar (1 * x.toInt.toNat + (j - 1 * y.toInt.toNat)) else G.1 ar j) ∧ Fr τ [66] G w1.2 ∧ TY D cy base τ w1.2 H ∧ va_S (RA base) s.heap H locs ∧ lv_has ls 5 [(4, .int w1.1), (0, .ref ar), (1, .int 1), (2, .int x), (3, .int y)]) (fun w1 => (1 - w1.1.toInt).toNat) ?_ ((0 : Int32), G) _ _ _ ⟨(by show 0 ≤ (0 : Int32).toInt; decide), (by show (0 : Int32).toInt ≤ 1; decide), (by show ∀ j : Nat, G.1 ar j = if 1 * y.toInt.toNat ≤ j ∧ j < 1 * y.toInt.toNat + (0 : Int).toNat then G.1 ar (1 * x.toInt.toNat + (j - 1 * y.toInt.toNat)) else G.1 ar j; intro j; rw [if_neg (by omega)]), hF, hT, hS, lv_sub hl [0, 1, 2, 3, 4] rfl⟩
  intro w1 H locs ls hI ih1
  obtain ⟨x1_4, G_1⟩ := w1
  obtain ⟨i1_0, i1_1, i1_2, hF, hT, hS, hl⟩ := hI
  have i1_0 : 0 ≤ x1_4.toInt := i1_0
  have i1_1 : x1_4.toInt ≤ 1 := i1_1
  have i1_2 : (∀ j : Nat, G_1.1 ar j = if 1 * y.toInt.toNat ≤ j ∧ j < 1 * y.toInt.toNat + x1_4.toInt.toNat then G.1 ar (1 * x.toInt.toNat + (j - 1 * y.toInt.toNat)) else G.1 ar j) := i1_2
  have hF : Fr τ [66] G G_1 := hF
  have hT : TY D cy base τ G_1 H := hT
  have hS : va_S (RA base) s.heap H locs := hS
  have hl : lv_has ls 5 [(4, .int x1_4), (0, .ref ar), (1, .int 1), (2, .int x), (3, .int y)] := hl
  refine lv_iload hx hb dX10_copyRow_3 (lv_at hl 0 rfl) ?_
  refine lv_iload_n hx hb dX10_copyRow_5 rfl (lv_at hl 2 rfl) ?_
  refine lv_icmp_ge (tgt := 31) hx hb dX10_copyRow_6 (by decide) (fun c_2 => ?_) (fun c_2 => ?_)
  · skip
    have tc_2 : 1 ≤ x1_4.toInt := (fa_le _ _).mp c_2
    exact ret_v hx hb hr hlocks ⟨⟨hS.1, hS.2.1⟩, G_1, hF, ⟨rfl, (by have q9 := i1_2; rw [show x1_4.toInt.toNat = 1 by omega] at q9; exact q9)⟩, hT⟩ hS.2.2 (Nat.le_of_ble_eq_true rfl) (Nat.le_of_ble_eq_true rfl) dX10_copyRow_31
  · skip
    have tc_2 : ¬ 1 ≤ x1_4.toInt := fun h => c_2 ((fa_le _ _).mpr h)
    refine lv_aload_n hx hb dX10_copyRow_9 rfl (lv_at hl 1 rfl) ?_
    refine lv_iload_n hx hb dX10_copyRow_10 rfl (lv_at hl 2 rfl) ?_
    refine lv_iload_n hx hb dX10_copyRow_11 rfl (lv_at hl 4 rfl) ?_
    refine lv_imul hx hb dX10_copyRow_12 ?_
    refine lv_topi (fun z_3 ez_3 => ?_)
    have tz_3 : z_3.toInt = 1 * y.toInt := mul_t ez_3 (show -2147483648 ≤ 1 * y.toInt by omega) (show 1 * y.toInt < 2147483648 by omega)
    refine lv_iload hx hb dX10_copyRow_13 (lv_at hl 0 rfl) ?_
    refine lv_iadd hx hb dX10_copyRow_15 ?_
    refine lv_topi (fun z_4 ez_4 => ?_)
    have tz_4 : z_4.toInt = z_3.toInt + x1_4.toInt := add_t ez_4 (show -2147483648 ≤ z_3.toInt + x1_4.toInt by omega) (show z_3.toInt + x1_4.toInt < 2147483648 by omega)
    refine lv_aload_n hx hb dX10_copyRow_16 rfl (lv_at hl 1 rfl) ?_
    refine lv_iload_n hx hb dX10_copyRow_17 rfl (lv_at hl 2 rfl) ?_
    refine lv_iload_n hx hb dX10_copyRow_18 rfl (lv_at hl 3 rfl) ?_
    refine lv_imul hx hb dX10_copyRow_19 ?_
    refine lv_topi (fun z_5 ez_5 => ?_)
    have tz_5 : z_5.toInt = 1 * x.toInt := mul_t ez_5 (show -2147483648 ≤ 1 * x.toInt by omega) (show 1 * x.toInt < 2147483648 by omega)
    refine lv_iload hx hb dX10_copyRow_20 (lv_at hl 0 rfl) ?_
    refine lv_iadd hx hb dX10_copyRow_22 ?_
    refine lv_topi (fun z_6 ez_6 => ?_)
    have tz_6 : z_6.toInt = z_5.toInt + x1_4.toInt := add_t ez_6 (show -2147483648 ≤ z_5.toInt + x1_4.toInt by omega) (show z_5.toInt + x1_4.toInt < 2147483648 by omega)
    refine t_iald (n := 5) (i := z_6) rfl (by decide) hx hb hK hT h_ar (hT.len h_ar (by decide)) ⟨by omega, by omega⟩ dX10_copyRow_23 (fun z_7 ez_7 rz_7 => ?_)
    refine t_iast (n := 5) (i := z_4) (x := z_7) rfl (by decide) hx hb hK hT hS h_ar (hT.len h_ar (by decide)) ⟨by omega, by omega⟩ trivial dX10_copyRow_24 (fun H locs G_8 eG_8 hT hS => ?_)
    have hF := hF.wI eG_8 h_ar rfl
    obtain ⟨z_9, ez_9⟩ : ∃ y : Int32, y = x1_4 + 1 := ⟨_, rfl⟩
    have tz_9 : z_9.toInt = x1_4.toInt + 1 := add_t ez_9 (show -2147483648 ≤ x1_4.toInt + 1 by omega) (show x1_4.toInt + 1 < 2147483648 by omega)
    refine lv_iinc (v := z_9) (lv' := [(4, .int z_9), (0, .ref ar), (1, .int 1), (2, .int x), (3, .int y)]) hx hb dX10_copyRow_25 hl (k := 0) rfl (by rw [ez_9]; rfl) (by decide) rfl (fun ls hl => ?_)
    refine lv_goto (tgt := 3) hx hb dX10_copyRow_28 (by decide) ?_
    exact ih1 (z_9, G_8) _ _ _ (by show (1 - z_9.toInt).toNat < (1 - x1_4.toInt).toNat; omega) ⟨(by show 0 ≤ z_9.toInt; omega), (by show z_9.toInt ≤ 1; omega), by show ∀ j : Nat, G_8.1 ar j = if 1 * y.toInt.toNat ≤ j ∧ j < 1 * y.toInt.toNat + z_9.toInt.toNat then G.1 ar (1 * x.toInt.toNat + (j - 1 * y.toInt.toNat)) else G.1 ar j; have q1 : z_4.toNatClampNeg = 1 * y.toInt.toNat + x1_4.toInt.toNat := (show z_4.toInt.toNat = _ by omega); have q2 : z_6.toNatClampNeg = 1 * x.toInt.toNat + x1_4.toInt.toNat := (show z_6.toInt.toNat = _ by omega); have q3 := cp_step (A := 1 * x.toInt.toNat) (B := 1 * y.toInt.toNat) (k := x1_4.toInt.toNat) i1_2 (by omega); rw [← q1, ← q2] at q3; have q4 : z_9.toInt.toNat = x1_4.toInt.toNat + 1 := (by omega); rw [eG_8, wI_up, ez_7, q4]; exact q3, hF, hT, hS, lv_sub hl [0, 1, 2, 3, 4] rfl⟩
set_option maxHeartbeats 4000000 in
set_option maxRecDepth 100000 in
theorem t_X10_copyRow_67 (l : Launch) (D : va_G) (cy : Nat → ClassId) (base : Nat) (τ : Nat → Nat) (G : Gh) (ar : Nat) (h_ar : τ ar = 67) (x : Int32) (r_x : 0 ≤ x.toInt ∧ x.toInt ≤ 4) (y : Int32) (r_y : 0 ≤ y.toInt ∧ y.toInt ≤ 4) : MM l yX10_copyRow cX10_copyRow 5 none 0 0 0 D cy [.ref ar, .int 4, .int x, .int y] (PT D cy base τ G) (QT D cy base τ G [67] (fun v g => v = none ∧ ((∀ j : Nat, g.1 ar j = if 4 * y.toInt.toNat ≤ j ∧ j < 4 * y.toInt.toNat + 4 then G.1 ar (4 * x.toInt.toNat + (j - 4 * y.toInt.toNat)) else G.1 ar j)))) (RA base) := by
  refine MM.of (by decide) (Nat.le_of_ble_eq_true rfl) ?_
  intro p e s m below meth c C hPT ls hl
  obtain ⟨hx, hb, hr, hml, hown, hts, hlocks, hK, hnm⟩ := C
  obtain ⟨hZ, hT⟩ := hPT
  have hS : va_S (RA base) s.heap s.heap [] := va_S.rf
  have hF : Fr τ [67] G G := Fr.rf
  have hl : lv_has ls 5 [(0, .ref ar), (1, .int 4), (2, .int x), (3, .int y)] := hl
  refine lv_iconst (v := 0) hx hb dX10_copyRow_0 (by decide) ?_
  refine lv_istore (lv' := [(4, .int 0), (0, .ref ar), (1, .int 4), (2, .int x), (3, .int y)]) hx hb dX10_copyRow_1 hl (by decide) rfl (fun ls hl => ?_)
  refine W.loop (σ := Int32 × Gh) (fun w1 H locs ls => 0 ≤ w1.1.toInt ∧ w1.1.toInt ≤ 4 ∧ (∀ j : Nat, w1.2.1 ar j = if 4 * y.toInt.toNat ≤ j ∧ j < 4 * y.toInt.toNat + w1.1.toInt.toNat then G.1 ar (4 * x.toInt.toNat + (j - 4 * y.toInt.toNat)) else G.1 ar j) ∧ Fr τ [67] G w1.2 ∧ TY D cy base τ w1.2 H ∧ va_S (RA base) s.heap H locs ∧ lv_has ls 5 [(4, .int w1.1), (0, .ref ar), (1, .int 4), (2, .int x), (3, .int y)]) (fun w1 => (4 - w1.1.toInt).toNat) ?_ ((0 : Int32), G) _ _ _ ⟨(by show 0 ≤ (0 : Int32).toInt; decide), (by show (0 : Int32).toInt ≤ 4; decide), (by show ∀ j : Nat, G.1 ar j = if 4 * y.toInt.toNat ≤ j ∧ j < 4 * y.toInt.toNat + (0 : Int).toNat then G.1 ar (4 * x.toInt.toNat + (j - 4 * y.toInt.toNat)) else G.1 ar j; intro j; rw [if_neg (by omega)]), hF, hT, hS, lv_sub hl [0, 1, 2, 3, 4] rfl⟩
  intro w1 H locs ls hI ih1
  obtain ⟨x1_4, G_1⟩ := w1
  obtain ⟨i1_0, i1_1, i1_2, hF, hT, hS, hl⟩ := hI
  have i1_0 : 0 ≤ x1_4.toInt := i1_0
  have i1_1 : x1_4.toInt ≤ 4 := i1_1
  have i1_2 : (∀ j : Nat, G_1.1 ar j = if 4 * y.toInt.toNat ≤ j ∧ j < 4 * y.toInt.toNat + x1_4.toInt.toNat then G.1 ar (4 * x.toInt.toNat + (j - 4 * y.toInt.toNat)) else G.1 ar j) := i1_2
  have hF : Fr τ [67] G G_1 := hF
  have hT : TY D cy base τ G_1 H := hT
  have hS : va_S (RA base) s.heap H locs := hS
  have hl : lv_has ls 5 [(4, .int x1_4), (0, .ref ar), (1, .int 4), (2, .int x), (3, .int y)] := hl
  refine lv_iload hx hb dX10_copyRow_3 (lv_at hl 0 rfl) ?_
  refine lv_iload_n hx hb dX10_copyRow_5 rfl (lv_at hl 2 rfl) ?_
  refine lv_icmp_ge (tgt := 31) hx hb dX10_copyRow_6 (by decide) (fun c_2 => ?_) (fun c_2 => ?_)
  · skip
    have tc_2 : 4 ≤ x1_4.toInt := (fa_le _ _).mp c_2
    exact ret_v hx hb hr hlocks ⟨⟨hS.1, hS.2.1⟩, G_1, hF, ⟨rfl, (by have q9 := i1_2; rw [show x1_4.toInt.toNat = 4 by omega] at q9; exact q9)⟩, hT⟩ hS.2.2 (Nat.le_of_ble_eq_true rfl) (Nat.le_of_ble_eq_true rfl) dX10_copyRow_31
  · skip
    have tc_2 : ¬ 4 ≤ x1_4.toInt := fun h => c_2 ((fa_le _ _).mpr h)
    refine lv_aload_n hx hb dX10_copyRow_9 rfl (lv_at hl 1 rfl) ?_
    refine lv_iload_n hx hb dX10_copyRow_10 rfl (lv_at hl 2 rfl) ?_
    refine lv_iload_n hx hb dX10_copyRow_11 rfl (lv_at hl 4 rfl) ?_
    refine lv_imul hx hb dX10_copyRow_12 ?_
    refine lv_topi (fun z_3 ez_3 => ?_)
    have tz_3 : z_3.toInt = 4 * y.toInt := mul_t ez_3 (show -2147483648 ≤ 4 * y.toInt by omega) (show 4 * y.toInt < 2147483648 by omega)
    refine lv_iload hx hb dX10_copyRow_13 (lv_at hl 0 rfl) ?_
    refine lv_iadd hx hb dX10_copyRow_15 ?_
    refine lv_topi (fun z_4 ez_4 => ?_)
    have tz_4 : z_4.toInt = z_3.toInt + x1_4.toInt := add_t ez_4 (show -2147483648 ≤ z_3.toInt + x1_4.toInt by omega) (show z_3.toInt + x1_4.toInt < 2147483648 by omega)
    refine lv_aload_n hx hb dX10_copyRow_16 rfl (lv_at hl 1 rfl) ?_
    refine lv_iload_n hx hb dX10_copyRow_17 rfl (lv_at hl 2 rfl) ?_
    refine lv_iload_n hx hb dX10_copyRow_18 rfl (lv_at hl 3 rfl) ?_
    refine lv_imul hx hb dX10_copyRow_19 ?_
    refine lv_topi (fun z_5 ez_5 => ?_)
    have tz_5 : z_5.toInt = 4 * x.toInt := mul_t ez_5 (show -2147483648 ≤ 4 * x.toInt by omega) (show 4 * x.toInt < 2147483648 by omega)
    refine lv_iload hx hb dX10_copyRow_20 (lv_at hl 0 rfl) ?_
    refine lv_iadd hx hb dX10_copyRow_22 ?_
    refine lv_topi (fun z_6 ez_6 => ?_)
    have tz_6 : z_6.toInt = z_5.toInt + x1_4.toInt := add_t ez_6 (show -2147483648 ≤ z_5.toInt + x1_4.toInt by omega) (show z_5.toInt + x1_4.toInt < 2147483648 by omega)
    refine t_iald (n := 20) (i := z_6) rfl (by decide) hx hb hK hT h_ar (hT.len h_ar (by decide)) ⟨by omega, by omega⟩ dX10_copyRow_23 (fun z_7 ez_7 rz_7 => ?_)
    have qz_7 : (z_6.toInt.toNat % 4 = 0 → 0 ≤ z_7.toInt ∧ z_7.toInt ≤ 60) := rz_7
    refine t_iast (n := 20) (i := z_4) (x := z_7) rfl (by decide) hx hb hK hT hS h_ar (hT.len h_ar (by decide)) ⟨by omega, by omega⟩ (show (z_4.toInt.toNat % 4 = 0 → 0 ≤ z_7.toInt ∧ z_7.toInt ≤ 60) from by omega) dX10_copyRow_24 (fun H locs G_8 eG_8 hT hS => ?_)
    have hF := hF.wI eG_8 h_ar rfl
    obtain ⟨z_9, ez_9⟩ : ∃ y : Int32, y = x1_4 + 1 := ⟨_, rfl⟩
    have tz_9 : z_9.toInt = x1_4.toInt + 1 := add_t ez_9 (show -2147483648 ≤ x1_4.toInt + 1 by omega) (show x1_4.toInt + 1 < 2147483648 by omega)
    refine lv_iinc (v := z_9) (lv' := [(4, .int z_9), (0, .ref ar), (1, .int 4), (2, .int x), (3, .int y)]) hx hb dX10_copyRow_25 hl (k := 0) rfl (by rw [ez_9]; rfl) (by decide) rfl (fun ls hl => ?_)
    refine lv_goto (tgt := 3) hx hb dX10_copyRow_28 (by decide) ?_
    exact ih1 (z_9, G_8) _ _ _ (by show (4 - z_9.toInt).toNat < (4 - x1_4.toInt).toNat; omega) ⟨(by show 0 ≤ z_9.toInt; omega), (by show z_9.toInt ≤ 4; omega), by show ∀ j : Nat, G_8.1 ar j = if 4 * y.toInt.toNat ≤ j ∧ j < 4 * y.toInt.toNat + z_9.toInt.toNat then G.1 ar (4 * x.toInt.toNat + (j - 4 * y.toInt.toNat)) else G.1 ar j; have q1 : z_4.toNatClampNeg = 4 * y.toInt.toNat + x1_4.toInt.toNat := (show z_4.toInt.toNat = _ by omega); have q2 : z_6.toNatClampNeg = 4 * x.toInt.toNat + x1_4.toInt.toNat := (show z_6.toInt.toNat = _ by omega); have q3 := cp_step (A := 4 * x.toInt.toNat) (B := 4 * y.toInt.toNat) (k := x1_4.toInt.toNat) i1_2 (by omega); rw [← q1, ← q2] at q3; have q4 : z_9.toInt.toNat = x1_4.toInt.toNat + 1 := (by omega); rw [eG_8, wI_up, ez_7, q4]; exact q3, hF, hT, hS, lv_sub hl [0, 1, 2, 3, 4] rfl⟩
set_option maxHeartbeats 4000000 in
set_option maxRecDepth 100000 in
theorem t_X10_copyRow_68 (l : Launch) (D : va_G) (cy : Nat → ClassId) (base : Nat) (τ : Nat → Nat) (G : Gh) (ar : Nat) (h_ar : τ ar = 68) (x : Int32) (r_x : 0 ≤ x.toInt ∧ x.toInt ≤ 4) (y : Int32) (r_y : 0 ≤ y.toInt ∧ y.toInt ≤ 4) : MM l yX10_copyRow cX10_copyRow 5 none 0 0 0 D cy [.ref ar, .int 1, .int x, .int y] (PT D cy base τ G) (QT D cy base τ G [68] (fun v g => v = none ∧ ((∀ j : Nat, g.1 ar j = if 1 * y.toInt.toNat ≤ j ∧ j < 1 * y.toInt.toNat + 1 then G.1 ar (1 * x.toInt.toNat + (j - 1 * y.toInt.toNat)) else G.1 ar j)))) (RA base) := by
  refine MM.of (by decide) (Nat.le_of_ble_eq_true rfl) ?_
  intro p e s m below meth c C hPT ls hl
  obtain ⟨hx, hb, hr, hml, hown, hts, hlocks, hK, hnm⟩ := C
  obtain ⟨hZ, hT⟩ := hPT
  have hS : va_S (RA base) s.heap s.heap [] := va_S.rf
  have hF : Fr τ [68] G G := Fr.rf
  have hl : lv_has ls 5 [(0, .ref ar), (1, .int 1), (2, .int x), (3, .int y)] := hl
  refine lv_iconst (v := 0) hx hb dX10_copyRow_0 (by decide) ?_
  refine lv_istore (lv' := [(4, .int 0), (0, .ref ar), (1, .int 1), (2, .int x), (3, .int y)]) hx hb dX10_copyRow_1 hl (by decide) rfl (fun ls hl => ?_)
  refine W.loop (σ := Int32 × Gh) (fun w1 H locs ls => 0 ≤ w1.1.toInt ∧ w1.1.toInt ≤ 1 ∧ (∀ j : Nat, w1.2.1 ar j = if 1 * y.toInt.toNat ≤ j ∧ j < 1 * y.toInt.toNat + w1.1.toInt.toNat then G.1 ar (1 * x.toInt.toNat + (j - 1 * y.toInt.toNat)) else G.1 ar j) ∧ Fr τ [68] G w1.2 ∧ TY D cy base τ w1.2 H ∧ va_S (RA base) s.heap H locs ∧ lv_has ls 5 [(4, .int w1.1), (0, .ref ar), (1, .int 1), (2, .int x), (3, .int y)]) (fun w1 => (1 - w1.1.toInt).toNat) ?_ ((0 : Int32), G) _ _ _ ⟨(by show 0 ≤ (0 : Int32).toInt; decide), (by show (0 : Int32).toInt ≤ 1; decide), (by show ∀ j : Nat, G.1 ar j = if 1 * y.toInt.toNat ≤ j ∧ j < 1 * y.toInt.toNat + (0 : Int).toNat then G.1 ar (1 * x.toInt.toNat + (j - 1 * y.toInt.toNat)) else G.1 ar j; intro j; rw [if_neg (by omega)]), hF, hT, hS, lv_sub hl [0, 1, 2, 3, 4] rfl⟩
  intro w1 H locs ls hI ih1
  obtain ⟨x1_4, G_1⟩ := w1
  obtain ⟨i1_0, i1_1, i1_2, hF, hT, hS, hl⟩ := hI
  have i1_0 : 0 ≤ x1_4.toInt := i1_0
  have i1_1 : x1_4.toInt ≤ 1 := i1_1
  have i1_2 : (∀ j : Nat, G_1.1 ar j = if 1 * y.toInt.toNat ≤ j ∧ j < 1 * y.toInt.toNat + x1_4.toInt.toNat then G.1 ar (1 * x.toInt.toNat + (j - 1 * y.toInt.toNat)) else G.1 ar j) := i1_2
  have hF : Fr τ [68] G G_1 := hF
  have hT : TY D cy base τ G_1 H := hT
  have hS : va_S (RA base) s.heap H locs := hS
  have hl : lv_has ls 5 [(4, .int x1_4), (0, .ref ar), (1, .int 1), (2, .int x), (3, .int y)] := hl
  refine lv_iload hx hb dX10_copyRow_3 (lv_at hl 0 rfl) ?_
  refine lv_iload_n hx hb dX10_copyRow_5 rfl (lv_at hl 2 rfl) ?_
  refine lv_icmp_ge (tgt := 31) hx hb dX10_copyRow_6 (by decide) (fun c_2 => ?_) (fun c_2 => ?_)
  · skip
    have tc_2 : 1 ≤ x1_4.toInt := (fa_le _ _).mp c_2
    exact ret_v hx hb hr hlocks ⟨⟨hS.1, hS.2.1⟩, G_1, hF, ⟨rfl, (by have q9 := i1_2; rw [show x1_4.toInt.toNat = 1 by omega] at q9; exact q9)⟩, hT⟩ hS.2.2 (Nat.le_of_ble_eq_true rfl) (Nat.le_of_ble_eq_true rfl) dX10_copyRow_31
  · skip
    have tc_2 : ¬ 1 ≤ x1_4.toInt := fun h => c_2 ((fa_le _ _).mpr h)
    refine lv_aload_n hx hb dX10_copyRow_9 rfl (lv_at hl 1 rfl) ?_
    refine lv_iload_n hx hb dX10_copyRow_10 rfl (lv_at hl 2 rfl) ?_
    refine lv_iload_n hx hb dX10_copyRow_11 rfl (lv_at hl 4 rfl) ?_
    refine lv_imul hx hb dX10_copyRow_12 ?_
    refine lv_topi (fun z_3 ez_3 => ?_)
    have tz_3 : z_3.toInt = 1 * y.toInt := mul_t ez_3 (show -2147483648 ≤ 1 * y.toInt by omega) (show 1 * y.toInt < 2147483648 by omega)
    refine lv_iload hx hb dX10_copyRow_13 (lv_at hl 0 rfl) ?_
    refine lv_iadd hx hb dX10_copyRow_15 ?_
    refine lv_topi (fun z_4 ez_4 => ?_)
    have tz_4 : z_4.toInt = z_3.toInt + x1_4.toInt := add_t ez_4 (show -2147483648 ≤ z_3.toInt + x1_4.toInt by omega) (show z_3.toInt + x1_4.toInt < 2147483648 by omega)
    refine lv_aload_n hx hb dX10_copyRow_16 rfl (lv_at hl 1 rfl) ?_
    refine lv_iload_n hx hb dX10_copyRow_17 rfl (lv_at hl 2 rfl) ?_
    refine lv_iload_n hx hb dX10_copyRow_18 rfl (lv_at hl 3 rfl) ?_
    refine lv_imul hx hb dX10_copyRow_19 ?_
    refine lv_topi (fun z_5 ez_5 => ?_)
    have tz_5 : z_5.toInt = 1 * x.toInt := mul_t ez_5 (show -2147483648 ≤ 1 * x.toInt by omega) (show 1 * x.toInt < 2147483648 by omega)
    refine lv_iload hx hb dX10_copyRow_20 (lv_at hl 0 rfl) ?_
    refine lv_iadd hx hb dX10_copyRow_22 ?_
    refine lv_topi (fun z_6 ez_6 => ?_)
    have tz_6 : z_6.toInt = z_5.toInt + x1_4.toInt := add_t ez_6 (show -2147483648 ≤ z_5.toInt + x1_4.toInt by omega) (show z_5.toInt + x1_4.toInt < 2147483648 by omega)
    refine t_iald (n := 5) (i := z_6) rfl (by decide) hx hb hK hT h_ar (hT.len h_ar (by decide)) ⟨by omega, by omega⟩ dX10_copyRow_23 (fun z_7 ez_7 rz_7 => ?_)
    have rz_7 : 0 ≤ z_7.toInt ∧ z_7.toInt ≤ 3 := rz_7
    refine t_iast (n := 5) (i := z_4) (x := z_7) rfl (by decide) hx hb hK hT hS h_ar (hT.len h_ar (by decide)) ⟨by omega, by omega⟩ (show 0 ≤ z_7.toInt ∧ z_7.toInt ≤ 3 from ⟨by omega, by omega⟩) dX10_copyRow_24 (fun H locs G_8 eG_8 hT hS => ?_)
    have hF := hF.wI eG_8 h_ar rfl
    obtain ⟨z_9, ez_9⟩ : ∃ y : Int32, y = x1_4 + 1 := ⟨_, rfl⟩
    have tz_9 : z_9.toInt = x1_4.toInt + 1 := add_t ez_9 (show -2147483648 ≤ x1_4.toInt + 1 by omega) (show x1_4.toInt + 1 < 2147483648 by omega)
    refine lv_iinc (v := z_9) (lv' := [(4, .int z_9), (0, .ref ar), (1, .int 1), (2, .int x), (3, .int y)]) hx hb dX10_copyRow_25 hl (k := 0) rfl (by rw [ez_9]; rfl) (by decide) rfl (fun ls hl => ?_)
    refine lv_goto (tgt := 3) hx hb dX10_copyRow_28 (by decide) ?_
    exact ih1 (z_9, G_8) _ _ _ (by show (1 - z_9.toInt).toNat < (1 - x1_4.toInt).toNat; omega) ⟨(by show 0 ≤ z_9.toInt; omega), (by show z_9.toInt ≤ 1; omega), by show ∀ j : Nat, G_8.1 ar j = if 1 * y.toInt.toNat ≤ j ∧ j < 1 * y.toInt.toNat + z_9.toInt.toNat then G.1 ar (1 * x.toInt.toNat + (j - 1 * y.toInt.toNat)) else G.1 ar j; have q1 : z_4.toNatClampNeg = 1 * y.toInt.toNat + x1_4.toInt.toNat := (show z_4.toInt.toNat = _ by omega); have q2 : z_6.toNatClampNeg = 1 * x.toInt.toNat + x1_4.toInt.toNat := (show z_6.toInt.toNat = _ by omega); have q3 := cp_step (A := 1 * x.toInt.toNat) (B := 1 * y.toInt.toNat) (k := x1_4.toInt.toNat) i1_2 (by omega); rw [← q1, ← q2] at q3; have q4 : z_9.toInt.toNat = x1_4.toInt.toNat + 1 := (by omega); rw [eG_8, wI_up, ez_7, q4]; exact q3, hF, hT, hS, lv_sub hl [0, 1, 2, 3, 4] rfl⟩
set_option maxHeartbeats 4000000 in
set_option maxRecDepth 100000 in
theorem t_X10_copyRow_69 (l : Launch) (D : va_G) (cy : Nat → ClassId) (base : Nat) (τ : Nat → Nat) (G : Gh) (ar : Nat) (h_ar : τ ar = 69) (x : Int32) (r_x : 0 ≤ x.toInt ∧ x.toInt ≤ 4) (y : Int32) (r_y : 0 ≤ y.toInt ∧ y.toInt ≤ 4) : MM l yX10_copyRow cX10_copyRow 5 none 0 0 0 D cy [.ref ar, .int 9, .int x, .int y] (PT D cy base τ G) (QT D cy base τ G [69] (fun v g => v = none ∧ ((∀ j : Nat, g.1 ar j = if 9 * y.toInt.toNat ≤ j ∧ j < 9 * y.toInt.toNat + 9 then G.1 ar (9 * x.toInt.toNat + (j - 9 * y.toInt.toNat)) else G.1 ar j)))) (RA base) := by
  refine MM.of (by decide) (Nat.le_of_ble_eq_true rfl) ?_
  intro p e s m below meth c C hPT ls hl
  obtain ⟨hx, hb, hr, hml, hown, hts, hlocks, hK, hnm⟩ := C
  obtain ⟨hZ, hT⟩ := hPT
  have hS : va_S (RA base) s.heap s.heap [] := va_S.rf
  have hF : Fr τ [69] G G := Fr.rf
  have hl : lv_has ls 5 [(0, .ref ar), (1, .int 9), (2, .int x), (3, .int y)] := hl
  refine lv_iconst (v := 0) hx hb dX10_copyRow_0 (by decide) ?_
  refine lv_istore (lv' := [(4, .int 0), (0, .ref ar), (1, .int 9), (2, .int x), (3, .int y)]) hx hb dX10_copyRow_1 hl (by decide) rfl (fun ls hl => ?_)
  refine W.loop (σ := Int32 × Gh) (fun w1 H locs ls => 0 ≤ w1.1.toInt ∧ w1.1.toInt ≤ 9 ∧ (∀ j : Nat, w1.2.1 ar j = if 9 * y.toInt.toNat ≤ j ∧ j < 9 * y.toInt.toNat + w1.1.toInt.toNat then G.1 ar (9 * x.toInt.toNat + (j - 9 * y.toInt.toNat)) else G.1 ar j) ∧ Fr τ [69] G w1.2 ∧ TY D cy base τ w1.2 H ∧ va_S (RA base) s.heap H locs ∧ lv_has ls 5 [(4, .int w1.1), (0, .ref ar), (1, .int 9), (2, .int x), (3, .int y)]) (fun w1 => (9 - w1.1.toInt).toNat) ?_ ((0 : Int32), G) _ _ _ ⟨(by show 0 ≤ (0 : Int32).toInt; decide), (by show (0 : Int32).toInt ≤ 9; decide), (by show ∀ j : Nat, G.1 ar j = if 9 * y.toInt.toNat ≤ j ∧ j < 9 * y.toInt.toNat + (0 : Int).toNat then G.1 ar (9 * x.toInt.toNat + (j - 9 * y.toInt.toNat)) else G.1 ar j; intro j; rw [if_neg (by omega)]), hF, hT, hS, lv_sub hl [0, 1, 2, 3, 4] rfl⟩
  intro w1 H locs ls hI ih1
  obtain ⟨x1_4, G_1⟩ := w1
  obtain ⟨i1_0, i1_1, i1_2, hF, hT, hS, hl⟩ := hI
  have i1_0 : 0 ≤ x1_4.toInt := i1_0
  have i1_1 : x1_4.toInt ≤ 9 := i1_1
  have i1_2 : (∀ j : Nat, G_1.1 ar j = if 9 * y.toInt.toNat ≤ j ∧ j < 9 * y.toInt.toNat + x1_4.toInt.toNat then G.1 ar (9 * x.toInt.toNat + (j - 9 * y.toInt.toNat)) else G.1 ar j) := i1_2
  have hF : Fr τ [69] G G_1 := hF
  have hT : TY D cy base τ G_1 H := hT
  have hS : va_S (RA base) s.heap H locs := hS
  have hl : lv_has ls 5 [(4, .int x1_4), (0, .ref ar), (1, .int 9), (2, .int x), (3, .int y)] := hl
  refine lv_iload hx hb dX10_copyRow_3 (lv_at hl 0 rfl) ?_
  refine lv_iload_n hx hb dX10_copyRow_5 rfl (lv_at hl 2 rfl) ?_
  refine lv_icmp_ge (tgt := 31) hx hb dX10_copyRow_6 (by decide) (fun c_2 => ?_) (fun c_2 => ?_)
  · skip
    have tc_2 : 9 ≤ x1_4.toInt := (fa_le _ _).mp c_2
    exact ret_v hx hb hr hlocks ⟨⟨hS.1, hS.2.1⟩, G_1, hF, ⟨rfl, (by have q9 := i1_2; rw [show x1_4.toInt.toNat = 9 by omega] at q9; exact q9)⟩, hT⟩ hS.2.2 (Nat.le_of_ble_eq_true rfl) (Nat.le_of_ble_eq_true rfl) dX10_copyRow_31
  · skip
    have tc_2 : ¬ 9 ≤ x1_4.toInt := fun h => c_2 ((fa_le _ _).mpr h)
    refine lv_aload_n hx hb dX10_copyRow_9 rfl (lv_at hl 1 rfl) ?_
    refine lv_iload_n hx hb dX10_copyRow_10 rfl (lv_at hl 2 rfl) ?_
    refine lv_iload_n hx hb dX10_copyRow_11 rfl (lv_at hl 4 rfl) ?_
    refine lv_imul hx hb dX10_copyRow_12 ?_
    refine lv_topi (fun z_3 ez_3 => ?_)
    have tz_3 : z_3.toInt = 9 * y.toInt := mul_t ez_3 (show -2147483648 ≤ 9 * y.toInt by omega) (show 9 * y.toInt < 2147483648 by omega)
    refine lv_iload hx hb dX10_copyRow_13 (lv_at hl 0 rfl) ?_
    refine lv_iadd hx hb dX10_copyRow_15 ?_
    refine lv_topi (fun z_4 ez_4 => ?_)
    have tz_4 : z_4.toInt = z_3.toInt + x1_4.toInt := add_t ez_4 (show -2147483648 ≤ z_3.toInt + x1_4.toInt by omega) (show z_3.toInt + x1_4.toInt < 2147483648 by omega)
    refine lv_aload_n hx hb dX10_copyRow_16 rfl (lv_at hl 1 rfl) ?_
    refine lv_iload_n hx hb dX10_copyRow_17 rfl (lv_at hl 2 rfl) ?_
    refine lv_iload_n hx hb dX10_copyRow_18 rfl (lv_at hl 3 rfl) ?_
    refine lv_imul hx hb dX10_copyRow_19 ?_
    refine lv_topi (fun z_5 ez_5 => ?_)
    have tz_5 : z_5.toInt = 9 * x.toInt := mul_t ez_5 (show -2147483648 ≤ 9 * x.toInt by omega) (show 9 * x.toInt < 2147483648 by omega)
    refine lv_iload hx hb dX10_copyRow_20 (lv_at hl 0 rfl) ?_
    refine lv_iadd hx hb dX10_copyRow_22 ?_
    refine lv_topi (fun z_6 ez_6 => ?_)
    have tz_6 : z_6.toInt = z_5.toInt + x1_4.toInt := add_t ez_6 (show -2147483648 ≤ z_5.toInt + x1_4.toInt by omega) (show z_5.toInt + x1_4.toInt < 2147483648 by omega)
    refine t_iald (n := 45) (i := z_6) rfl (by decide) hx hb hK hT h_ar (hT.len h_ar (by decide)) ⟨by omega, by omega⟩ dX10_copyRow_23 (fun z_7 ez_7 rz_7 => ?_)
    refine t_iast (n := 45) (i := z_4) (x := z_7) rfl (by decide) hx hb hK hT hS h_ar (hT.len h_ar (by decide)) ⟨by omega, by omega⟩ trivial dX10_copyRow_24 (fun H locs G_8 eG_8 hT hS => ?_)
    have hF := hF.wI eG_8 h_ar rfl
    obtain ⟨z_9, ez_9⟩ : ∃ y : Int32, y = x1_4 + 1 := ⟨_, rfl⟩
    have tz_9 : z_9.toInt = x1_4.toInt + 1 := add_t ez_9 (show -2147483648 ≤ x1_4.toInt + 1 by omega) (show x1_4.toInt + 1 < 2147483648 by omega)
    refine lv_iinc (v := z_9) (lv' := [(4, .int z_9), (0, .ref ar), (1, .int 9), (2, .int x), (3, .int y)]) hx hb dX10_copyRow_25 hl (k := 0) rfl (by rw [ez_9]; rfl) (by decide) rfl (fun ls hl => ?_)
    refine lv_goto (tgt := 3) hx hb dX10_copyRow_28 (by decide) ?_
    exact ih1 (z_9, G_8) _ _ _ (by show (9 - z_9.toInt).toNat < (9 - x1_4.toInt).toNat; omega) ⟨(by show 0 ≤ z_9.toInt; omega), (by show z_9.toInt ≤ 9; omega), by show ∀ j : Nat, G_8.1 ar j = if 9 * y.toInt.toNat ≤ j ∧ j < 9 * y.toInt.toNat + z_9.toInt.toNat then G.1 ar (9 * x.toInt.toNat + (j - 9 * y.toInt.toNat)) else G.1 ar j; have q1 : z_4.toNatClampNeg = 9 * y.toInt.toNat + x1_4.toInt.toNat := (show z_4.toInt.toNat = _ by omega); have q2 : z_6.toNatClampNeg = 9 * x.toInt.toNat + x1_4.toInt.toNat := (show z_6.toInt.toNat = _ by omega); have q3 := cp_step (A := 9 * x.toInt.toNat) (B := 9 * y.toInt.toNat) (k := x1_4.toInt.toNat) i1_2 (by omega); rw [← q1, ← q2] at q3; have q4 : z_9.toInt.toNat = x1_4.toInt.toNat + 1 := (by omega); rw [eG_8, wI_up, ez_7, q4]; exact q3, hF, hT, hS, lv_sub hl [0, 1, 2, 3, 4] rfl⟩
set_option maxHeartbeats 4000000 in
set_option maxRecDepth 100000 in
theorem t_X10_copyRow_70 (l : Launch) (D : va_G) (cy : Nat → ClassId) (base : Nat) (τ : Nat → Nat) (G : Gh) (ar : Nat) (h_ar : τ ar = 70) (x : Int32) (r_x : 0 ≤ x.toInt ∧ x.toInt ≤ 4) (y : Int32) (r_y : 0 ≤ y.toInt ∧ y.toInt ≤ 4) : MM l yX10_copyRow cX10_copyRow 5 none 0 0 0 D cy [.ref ar, .int 1, .int x, .int y] (PT D cy base τ G) (QT D cy base τ G [70] (fun v g => v = none ∧ ((∀ j : Nat, g.1 ar j = if 1 * y.toInt.toNat ≤ j ∧ j < 1 * y.toInt.toNat + 1 then G.1 ar (1 * x.toInt.toNat + (j - 1 * y.toInt.toNat)) else G.1 ar j)))) (RA base) := by
  refine MM.of (by decide) (Nat.le_of_ble_eq_true rfl) ?_
  intro p e s m below meth c C hPT ls hl
  obtain ⟨hx, hb, hr, hml, hown, hts, hlocks, hK, hnm⟩ := C
  obtain ⟨hZ, hT⟩ := hPT
  have hS : va_S (RA base) s.heap s.heap [] := va_S.rf
  have hF : Fr τ [70] G G := Fr.rf
  have hl : lv_has ls 5 [(0, .ref ar), (1, .int 1), (2, .int x), (3, .int y)] := hl
  refine lv_iconst (v := 0) hx hb dX10_copyRow_0 (by decide) ?_
  refine lv_istore (lv' := [(4, .int 0), (0, .ref ar), (1, .int 1), (2, .int x), (3, .int y)]) hx hb dX10_copyRow_1 hl (by decide) rfl (fun ls hl => ?_)
  refine W.loop (σ := Int32 × Gh) (fun w1 H locs ls => 0 ≤ w1.1.toInt ∧ w1.1.toInt ≤ 1 ∧ (∀ j : Nat, w1.2.1 ar j = if 1 * y.toInt.toNat ≤ j ∧ j < 1 * y.toInt.toNat + w1.1.toInt.toNat then G.1 ar (1 * x.toInt.toNat + (j - 1 * y.toInt.toNat)) else G.1 ar j) ∧ Fr τ [70] G w1.2 ∧ TY D cy base τ w1.2 H ∧ va_S (RA base) s.heap H locs ∧ lv_has ls 5 [(4, .int w1.1), (0, .ref ar), (1, .int 1), (2, .int x), (3, .int y)]) (fun w1 => (1 - w1.1.toInt).toNat) ?_ ((0 : Int32), G) _ _ _ ⟨(by show 0 ≤ (0 : Int32).toInt; decide), (by show (0 : Int32).toInt ≤ 1; decide), (by show ∀ j : Nat, G.1 ar j = if 1 * y.toInt.toNat ≤ j ∧ j < 1 * y.toInt.toNat + (0 : Int).toNat then G.1 ar (1 * x.toInt.toNat + (j - 1 * y.toInt.toNat)) else G.1 ar j; intro j; rw [if_neg (by omega)]), hF, hT, hS, lv_sub hl [0, 1, 2, 3, 4] rfl⟩
  intro w1 H locs ls hI ih1
  obtain ⟨x1_4, G_1⟩ := w1
  obtain ⟨i1_0, i1_1, i1_2, hF, hT, hS, hl⟩ := hI
  have i1_0 : 0 ≤ x1_4.toInt := i1_0
  have i1_1 : x1_4.toInt ≤ 1 := i1_1
  have i1_2 : (∀ j : Nat, G_1.1 ar j = if 1 * y.toInt.toNat ≤ j ∧ j < 1 * y.toInt.toNat + x1_4.toInt.toNat then G.1 ar (1 * x.toInt.toNat + (j - 1 * y.toInt.toNat)) else G.1 ar j) := i1_2
  have hF : Fr τ [70] G G_1 := hF
  have hT : TY D cy base τ G_1 H := hT
  have hS : va_S (RA base) s.heap H locs := hS
  have hl : lv_has ls 5 [(4, .int x1_4), (0, .ref ar), (1, .int 1), (2, .int x), (3, .int y)] := hl
  refine lv_iload hx hb dX10_copyRow_3 (lv_at hl 0 rfl) ?_
  refine lv_iload_n hx hb dX10_copyRow_5 rfl (lv_at hl 2 rfl) ?_
  refine lv_icmp_ge (tgt := 31) hx hb dX10_copyRow_6 (by decide) (fun c_2 => ?_) (fun c_2 => ?_)
  · skip
    have tc_2 : 1 ≤ x1_4.toInt := (fa_le _ _).mp c_2
    exact ret_v hx hb hr hlocks ⟨⟨hS.1, hS.2.1⟩, G_1, hF, ⟨rfl, (by have q9 := i1_2; rw [show x1_4.toInt.toNat = 1 by omega] at q9; exact q9)⟩, hT⟩ hS.2.2 (Nat.le_of_ble_eq_true rfl) (Nat.le_of_ble_eq_true rfl) dX10_copyRow_31
  · skip
    have tc_2 : ¬ 1 ≤ x1_4.toInt := fun h => c_2 ((fa_le _ _).mpr h)
    refine lv_aload_n hx hb dX10_copyRow_9 rfl (lv_at hl 1 rfl) ?_
    refine lv_iload_n hx hb dX10_copyRow_10 rfl (lv_at hl 2 rfl) ?_
    refine lv_iload_n hx hb dX10_copyRow_11 rfl (lv_at hl 4 rfl) ?_
    refine lv_imul hx hb dX10_copyRow_12 ?_
    refine lv_topi (fun z_3 ez_3 => ?_)
    have tz_3 : z_3.toInt = 1 * y.toInt := mul_t ez_3 (show -2147483648 ≤ 1 * y.toInt by omega) (show 1 * y.toInt < 2147483648 by omega)
    refine lv_iload hx hb dX10_copyRow_13 (lv_at hl 0 rfl) ?_
    refine lv_iadd hx hb dX10_copyRow_15 ?_
    refine lv_topi (fun z_4 ez_4 => ?_)
    have tz_4 : z_4.toInt = z_3.toInt + x1_4.toInt := add_t ez_4 (show -2147483648 ≤ z_3.toInt + x1_4.toInt by omega) (show z_3.toInt + x1_4.toInt < 2147483648 by omega)
    refine lv_aload_n hx hb dX10_copyRow_16 rfl (lv_at hl 1 rfl) ?_
    refine lv_iload_n hx hb dX10_copyRow_17 rfl (lv_at hl 2 rfl) ?_
    refine lv_iload_n hx hb dX10_copyRow_18 rfl (lv_at hl 3 rfl) ?_
    refine lv_imul hx hb dX10_copyRow_19 ?_
    refine lv_topi (fun z_5 ez_5 => ?_)
    have tz_5 : z_5.toInt = 1 * x.toInt := mul_t ez_5 (show -2147483648 ≤ 1 * x.toInt by omega) (show 1 * x.toInt < 2147483648 by omega)
    refine lv_iload hx hb dX10_copyRow_20 (lv_at hl 0 rfl) ?_
    refine lv_iadd hx hb dX10_copyRow_22 ?_
    refine lv_topi (fun z_6 ez_6 => ?_)
    have tz_6 : z_6.toInt = z_5.toInt + x1_4.toInt := add_t ez_6 (show -2147483648 ≤ z_5.toInt + x1_4.toInt by omega) (show z_5.toInt + x1_4.toInt < 2147483648 by omega)
    refine t_iald (n := 5) (i := z_6) rfl (by decide) hx hb hK hT h_ar (hT.len h_ar (by decide)) ⟨by omega, by omega⟩ dX10_copyRow_23 (fun z_7 ez_7 rz_7 => ?_)
    have rz_7 : 0 ≤ z_7.toInt ∧ z_7.toInt ≤ 6 := rz_7
    refine t_iast (n := 5) (i := z_4) (x := z_7) rfl (by decide) hx hb hK hT hS h_ar (hT.len h_ar (by decide)) ⟨by omega, by omega⟩ (show 0 ≤ z_7.toInt ∧ z_7.toInt ≤ 6 from ⟨by omega, by omega⟩) dX10_copyRow_24 (fun H locs G_8 eG_8 hT hS => ?_)
    have hF := hF.wI eG_8 h_ar rfl
    obtain ⟨z_9, ez_9⟩ : ∃ y : Int32, y = x1_4 + 1 := ⟨_, rfl⟩
    have tz_9 : z_9.toInt = x1_4.toInt + 1 := add_t ez_9 (show -2147483648 ≤ x1_4.toInt + 1 by omega) (show x1_4.toInt + 1 < 2147483648 by omega)
    refine lv_iinc (v := z_9) (lv' := [(4, .int z_9), (0, .ref ar), (1, .int 1), (2, .int x), (3, .int y)]) hx hb dX10_copyRow_25 hl (k := 0) rfl (by rw [ez_9]; rfl) (by decide) rfl (fun ls hl => ?_)
    refine lv_goto (tgt := 3) hx hb dX10_copyRow_28 (by decide) ?_
    exact ih1 (z_9, G_8) _ _ _ (by show (1 - z_9.toInt).toNat < (1 - x1_4.toInt).toNat; omega) ⟨(by show 0 ≤ z_9.toInt; omega), (by show z_9.toInt ≤ 1; omega), by show ∀ j : Nat, G_8.1 ar j = if 1 * y.toInt.toNat ≤ j ∧ j < 1 * y.toInt.toNat + z_9.toInt.toNat then G.1 ar (1 * x.toInt.toNat + (j - 1 * y.toInt.toNat)) else G.1 ar j; have q1 : z_4.toNatClampNeg = 1 * y.toInt.toNat + x1_4.toInt.toNat := (show z_4.toInt.toNat = _ by omega); have q2 : z_6.toNatClampNeg = 1 * x.toInt.toNat + x1_4.toInt.toNat := (show z_6.toInt.toNat = _ by omega); have q3 := cp_step (A := 1 * x.toInt.toNat) (B := 1 * y.toInt.toNat) (k := x1_4.toInt.toNat) i1_2 (by omega); rw [← q1, ← q2] at q3; have q4 : z_9.toInt.toNat = x1_4.toInt.toNat + 1 := (by omega); rw [eG_8, wI_up, ez_7, q4]; exact q3, hF, hT, hS, lv_sub hl [0, 1, 2, 3, 4] rfl⟩
set_option maxHeartbeats 4000000 in
set_option maxRecDepth 100000 in
theorem t_X10_copyRow_71 (l : Launch) (D : va_G) (cy : Nat → ClassId) (base : Nat) (τ : Nat → Nat) (G : Gh) (ar : Nat) (h_ar : τ ar = 71) (x : Int32) (r_x : 0 ≤ x.toInt ∧ x.toInt ≤ 4) (y : Int32) (r_y : 0 ≤ y.toInt ∧ y.toInt ≤ 4) : MM l yX10_copyRow cX10_copyRow 5 none 0 0 0 D cy [.ref ar, .int 30, .int x, .int y] (PT D cy base τ G) (QT D cy base τ G [71] (fun v g => v = none ∧ ((∀ j : Nat, g.1 ar j = if 30 * y.toInt.toNat ≤ j ∧ j < 30 * y.toInt.toNat + 30 then G.1 ar (30 * x.toInt.toNat + (j - 30 * y.toInt.toNat)) else G.1 ar j)))) (RA base) := by
  refine MM.of (by decide) (Nat.le_of_ble_eq_true rfl) ?_
  intro p e s m below meth c C hPT ls hl
  obtain ⟨hx, hb, hr, hml, hown, hts, hlocks, hK, hnm⟩ := C
  obtain ⟨hZ, hT⟩ := hPT
  have hS : va_S (RA base) s.heap s.heap [] := va_S.rf
  have hF : Fr τ [71] G G := Fr.rf
  have hl : lv_has ls 5 [(0, .ref ar), (1, .int 30), (2, .int x), (3, .int y)] := hl
  refine lv_iconst (v := 0) hx hb dX10_copyRow_0 (by decide) ?_
  refine lv_istore (lv' := [(4, .int 0), (0, .ref ar), (1, .int 30), (2, .int x), (3, .int y)]) hx hb dX10_copyRow_1 hl (by decide) rfl (fun ls hl => ?_)
  refine W.loop (σ := Int32 × Gh) (fun w1 H locs ls => 0 ≤ w1.1.toInt ∧ w1.1.toInt ≤ 30 ∧ (∀ j : Nat, w1.2.1 ar j = if 30 * y.toInt.toNat ≤ j ∧ j < 30 * y.toInt.toNat + w1.1.toInt.toNat then G.1 ar (30 * x.toInt.toNat + (j - 30 * y.toInt.toNat)) else G.1 ar j) ∧ Fr τ [71] G w1.2 ∧ TY D cy base τ w1.2 H ∧ va_S (RA base) s.heap H locs ∧ lv_has ls 5 [(4, .int w1.1), (0, .ref ar), (1, .int 30), (2, .int x), (3, .int y)]) (fun w1 => (30 - w1.1.toInt).toNat) ?_ ((0 : Int32), G) _ _ _ ⟨(by show 0 ≤ (0 : Int32).toInt; decide), (by show (0 : Int32).toInt ≤ 30; decide), (by show ∀ j : Nat, G.1 ar j = if 30 * y.toInt.toNat ≤ j ∧ j < 30 * y.toInt.toNat + (0 : Int).toNat then G.1 ar (30 * x.toInt.toNat + (j - 30 * y.toInt.toNat)) else G.1 ar j; intro j; rw [if_neg (by omega)]), hF, hT, hS, lv_sub hl [0, 1, 2, 3, 4] rfl⟩
  intro w1 H locs ls hI ih1
  obtain ⟨x1_4, G_1⟩ := w1
  obtain ⟨i1_0, i1_1, i1_2, hF, hT, hS, hl⟩ := hI
  have i1_0 : 0 ≤ x1_4.toInt := i1_0
  have i1_1 : x1_4.toInt ≤ 30 := i1_1
  have i1_2 : (∀ j : Nat, G_1.1 ar j = if 30 * y.toInt.toNat ≤ j ∧ j < 30 * y.toInt.toNat + x1_4.toInt.toNat then G.1 ar (30 * x.toInt.toNat + (j - 30 * y.toInt.toNat)) else G.1 ar j) := i1_2
  have hF : Fr τ [71] G G_1 := hF
  have hT : TY D cy base τ G_1 H := hT
  have hS : va_S (RA base) s.heap H locs := hS
  have hl : lv_has ls 5 [(4, .int x1_4), (0, .ref ar), (1, .int 30), (2, .int x), (3, .int y)] := hl
  refine lv_iload hx hb dX10_copyRow_3 (lv_at hl 0 rfl) ?_
  refine lv_iload_n hx hb dX10_copyRow_5 rfl (lv_at hl 2 rfl) ?_
  refine lv_icmp_ge (tgt := 31) hx hb dX10_copyRow_6 (by decide) (fun c_2 => ?_) (fun c_2 => ?_)
  · skip
    have tc_2 : 30 ≤ x1_4.toInt := (fa_le _ _).mp c_2
    exact ret_v hx hb hr hlocks ⟨⟨hS.1, hS.2.1⟩, G_1, hF, ⟨rfl, (by have q9 := i1_2; rw [show x1_4.toInt.toNat = 30 by omega] at q9; exact q9)⟩, hT⟩ hS.2.2 (Nat.le_of_ble_eq_true rfl) (Nat.le_of_ble_eq_true rfl) dX10_copyRow_31
  · skip
    have tc_2 : ¬ 30 ≤ x1_4.toInt := fun h => c_2 ((fa_le _ _).mpr h)
    refine lv_aload_n hx hb dX10_copyRow_9 rfl (lv_at hl 1 rfl) ?_
    refine lv_iload_n hx hb dX10_copyRow_10 rfl (lv_at hl 2 rfl) ?_
    refine lv_iload_n hx hb dX10_copyRow_11 rfl (lv_at hl 4 rfl) ?_
    refine lv_imul hx hb dX10_copyRow_12 ?_
    refine lv_topi (fun z_3 ez_3 => ?_)
    have tz_3 : z_3.toInt = 30 * y.toInt := mul_t ez_3 (show -2147483648 ≤ 30 * y.toInt by omega) (show 30 * y.toInt < 2147483648 by omega)
    refine lv_iload hx hb dX10_copyRow_13 (lv_at hl 0 rfl) ?_
    refine lv_iadd hx hb dX10_copyRow_15 ?_
    refine lv_topi (fun z_4 ez_4 => ?_)
    have tz_4 : z_4.toInt = z_3.toInt + x1_4.toInt := add_t ez_4 (show -2147483648 ≤ z_3.toInt + x1_4.toInt by omega) (show z_3.toInt + x1_4.toInt < 2147483648 by omega)
    refine lv_aload_n hx hb dX10_copyRow_16 rfl (lv_at hl 1 rfl) ?_
    refine lv_iload_n hx hb dX10_copyRow_17 rfl (lv_at hl 2 rfl) ?_
    refine lv_iload_n hx hb dX10_copyRow_18 rfl (lv_at hl 3 rfl) ?_
    refine lv_imul hx hb dX10_copyRow_19 ?_
    refine lv_topi (fun z_5 ez_5 => ?_)
    have tz_5 : z_5.toInt = 30 * x.toInt := mul_t ez_5 (show -2147483648 ≤ 30 * x.toInt by omega) (show 30 * x.toInt < 2147483648 by omega)
    refine lv_iload hx hb dX10_copyRow_20 (lv_at hl 0 rfl) ?_
    refine lv_iadd hx hb dX10_copyRow_22 ?_
    refine lv_topi (fun z_6 ez_6 => ?_)
    have tz_6 : z_6.toInt = z_5.toInt + x1_4.toInt := add_t ez_6 (show -2147483648 ≤ z_5.toInt + x1_4.toInt by omega) (show z_5.toInt + x1_4.toInt < 2147483648 by omega)
    refine t_iald (n := 150) (i := z_6) rfl (by decide) hx hb hK hT h_ar (hT.len h_ar (by decide)) ⟨by omega, by omega⟩ dX10_copyRow_23 (fun z_7 ez_7 rz_7 => ?_)
    have qz_7 : (z_6.toInt.toNat % 5 = 1 → 0 ≤ z_7.toInt ∧ z_7.toInt ≤ 999) ∧ (z_6.toInt.toNat % 5 = 2 → 0 ≤ z_7.toInt ∧ z_7.toInt ≤ 9) ∧ (z_6.toInt.toNat % 5 = 3 → 0 ≤ z_7.toInt ∧ z_7.toInt ≤ 9) ∧ (z_6.toInt.toNat % 5 = 4 → 0 ≤ z_7.toInt ∧ z_7.toInt ≤ 9) := rz_7
    refine t_iast (n := 150) (i := z_4) (x := z_7) rfl (by decide) hx hb hK hT hS h_ar (hT.len h_ar (by decide)) ⟨by omega, by omega⟩ (show (z_4.toInt.toNat % 5 = 1 → 0 ≤ z_7.toInt ∧ z_7.toInt ≤ 999) ∧ (z_4.toInt.toNat % 5 = 2 → 0 ≤ z_7.toInt ∧ z_7.toInt ≤ 9) ∧ (z_4.toInt.toNat % 5 = 3 → 0 ≤ z_7.toInt ∧ z_7.toInt ≤ 9) ∧ (z_4.toInt.toNat % 5 = 4 → 0 ≤ z_7.toInt ∧ z_7.toInt ≤ 9) from by omega) dX10_copyRow_24 (fun H locs G_8 eG_8 hT hS => ?_)
    have hF := hF.wI eG_8 h_ar rfl
    obtain ⟨z_9, ez_9⟩ : ∃ y : Int32, y = x1_4 + 1 := ⟨_, rfl⟩
    have tz_9 : z_9.toInt = x1_4.toInt + 1 := add_t ez_9 (show -2147483648 ≤ x1_4.toInt + 1 by omega) (show x1_4.toInt + 1 < 2147483648 by omega)
    refine lv_iinc (v := z_9) (lv' := [(4, .int z_9), (0, .ref ar), (1, .int 30), (2, .int x), (3, .int y)]) hx hb dX10_copyRow_25 hl (k := 0) rfl (by rw [ez_9]; rfl) (by decide) rfl (fun ls hl => ?_)
    refine lv_goto (tgt := 3) hx hb dX10_copyRow_28 (by decide) ?_
    exact ih1 (z_9, G_8) _ _ _ (by show (30 - z_9.toInt).toNat < (30 - x1_4.toInt).toNat; omega) ⟨(by show 0 ≤ z_9.toInt; omega), (by show z_9.toInt ≤ 30; omega), by show ∀ j : Nat, G_8.1 ar j = if 30 * y.toInt.toNat ≤ j ∧ j < 30 * y.toInt.toNat + z_9.toInt.toNat then G.1 ar (30 * x.toInt.toNat + (j - 30 * y.toInt.toNat)) else G.1 ar j; have q1 : z_4.toNatClampNeg = 30 * y.toInt.toNat + x1_4.toInt.toNat := (show z_4.toInt.toNat = _ by omega); have q2 : z_6.toNatClampNeg = 30 * x.toInt.toNat + x1_4.toInt.toNat := (show z_6.toInt.toNat = _ by omega); have q3 := cp_step (A := 30 * x.toInt.toNat) (B := 30 * y.toInt.toNat) (k := x1_4.toInt.toNat) i1_2 (by omega); rw [← q1, ← q2] at q3; have q4 : z_9.toInt.toNat = x1_4.toInt.toNat + 1 := (by omega); rw [eG_8, wI_up, ez_7, q4]; exact q3, hF, hT, hS, lv_sub hl [0, 1, 2, 3, 4] rfl⟩
set_option maxHeartbeats 4000000 in
set_option maxRecDepth 100000 in
theorem t_X10_copyRow_72 (l : Launch) (D : va_G) (cy : Nat → ClassId) (base : Nat) (τ : Nat → Nat) (G : Gh) (ar : Nat) (h_ar : τ ar = 72) (x : Int32) (r_x : 0 ≤ x.toInt ∧ x.toInt ≤ 4) (y : Int32) (r_y : 0 ≤ y.toInt ∧ y.toInt ≤ 4) : MM l yX10_copyRow cX10_copyRow 5 none 0 0 0 D cy [.ref ar, .int 1, .int x, .int y] (PT D cy base τ G) (QT D cy base τ G [72] (fun v g => v = none ∧ ((∀ j : Nat, g.1 ar j = if 1 * y.toInt.toNat ≤ j ∧ j < 1 * y.toInt.toNat + 1 then G.1 ar (1 * x.toInt.toNat + (j - 1 * y.toInt.toNat)) else G.1 ar j)))) (RA base) := by
  refine MM.of (by decide) (Nat.le_of_ble_eq_true rfl) ?_
  intro p e s m below meth c C hPT ls hl
  obtain ⟨hx, hb, hr, hml, hown, hts, hlocks, hK, hnm⟩ := C
  obtain ⟨hZ, hT⟩ := hPT
  have hS : va_S (RA base) s.heap s.heap [] := va_S.rf
  have hF : Fr τ [72] G G := Fr.rf
  have hl : lv_has ls 5 [(0, .ref ar), (1, .int 1), (2, .int x), (3, .int y)] := hl
  refine lv_iconst (v := 0) hx hb dX10_copyRow_0 (by decide) ?_
  refine lv_istore (lv' := [(4, .int 0), (0, .ref ar), (1, .int 1), (2, .int x), (3, .int y)]) hx hb dX10_copyRow_1 hl (by decide) rfl (fun ls hl => ?_)
  refine W.loop (σ := Int32 × Gh) (fun w1 H locs ls => 0 ≤ w1.1.toInt ∧ w1.1.toInt ≤ 1 ∧ (∀ j : Nat, w1.2.1 ar j = if 1 * y.toInt.toNat ≤ j ∧ j < 1 * y.toInt.toNat + w1.1.toInt.toNat then G.1 ar (1 * x.toInt.toNat + (j - 1 * y.toInt.toNat)) else G.1 ar j) ∧ Fr τ [72] G w1.2 ∧ TY D cy base τ w1.2 H ∧ va_S (RA base) s.heap H locs ∧ lv_has ls 5 [(4, .int w1.1), (0, .ref ar), (1, .int 1), (2, .int x), (3, .int y)]) (fun w1 => (1 - w1.1.toInt).toNat) ?_ ((0 : Int32), G) _ _ _ ⟨(by show 0 ≤ (0 : Int32).toInt; decide), (by show (0 : Int32).toInt ≤ 1; decide), (by show ∀ j : Nat, G.1 ar j = if 1 * y.toInt.toNat ≤ j ∧ j < 1 * y.toInt.toNat + (0 : Int).toNat then G.1 ar (1 * x.toInt.toNat + (j - 1 * y.toInt.toNat)) else G.1 ar j; intro j; rw [if_neg (by omega)]), hF, hT, hS, lv_sub hl [0, 1, 2, 3, 4] rfl⟩
  intro w1 H locs ls hI ih1
  obtain ⟨x1_4, G_1⟩ := w1
  obtain ⟨i1_0, i1_1, i1_2, hF, hT, hS, hl⟩ := hI
  have i1_0 : 0 ≤ x1_4.toInt := i1_0
  have i1_1 : x1_4.toInt ≤ 1 := i1_1
  have i1_2 : (∀ j : Nat, G_1.1 ar j = if 1 * y.toInt.toNat ≤ j ∧ j < 1 * y.toInt.toNat + x1_4.toInt.toNat then G.1 ar (1 * x.toInt.toNat + (j - 1 * y.toInt.toNat)) else G.1 ar j) := i1_2
  have hF : Fr τ [72] G G_1 := hF
  have hT : TY D cy base τ G_1 H := hT
  have hS : va_S (RA base) s.heap H locs := hS
  have hl : lv_has ls 5 [(4, .int x1_4), (0, .ref ar), (1, .int 1), (2, .int x), (3, .int y)] := hl
  refine lv_iload hx hb dX10_copyRow_3 (lv_at hl 0 rfl) ?_
  refine lv_iload_n hx hb dX10_copyRow_5 rfl (lv_at hl 2 rfl) ?_
  refine lv_icmp_ge (tgt := 31) hx hb dX10_copyRow_6 (by decide) (fun c_2 => ?_) (fun c_2 => ?_)
  · skip
    have tc_2 : 1 ≤ x1_4.toInt := (fa_le _ _).mp c_2
    exact ret_v hx hb hr hlocks ⟨⟨hS.1, hS.2.1⟩, G_1, hF, ⟨rfl, (by have q9 := i1_2; rw [show x1_4.toInt.toNat = 1 by omega] at q9; exact q9)⟩, hT⟩ hS.2.2 (Nat.le_of_ble_eq_true rfl) (Nat.le_of_ble_eq_true rfl) dX10_copyRow_31
  · skip
    have tc_2 : ¬ 1 ≤ x1_4.toInt := fun h => c_2 ((fa_le _ _).mpr h)
    refine lv_aload_n hx hb dX10_copyRow_9 rfl (lv_at hl 1 rfl) ?_
    refine lv_iload_n hx hb dX10_copyRow_10 rfl (lv_at hl 2 rfl) ?_
    refine lv_iload_n hx hb dX10_copyRow_11 rfl (lv_at hl 4 rfl) ?_
    refine lv_imul hx hb dX10_copyRow_12 ?_
    refine lv_topi (fun z_3 ez_3 => ?_)
    have tz_3 : z_3.toInt = 1 * y.toInt := mul_t ez_3 (show -2147483648 ≤ 1 * y.toInt by omega) (show 1 * y.toInt < 2147483648 by omega)
    refine lv_iload hx hb dX10_copyRow_13 (lv_at hl 0 rfl) ?_
    refine lv_iadd hx hb dX10_copyRow_15 ?_
    refine lv_topi (fun z_4 ez_4 => ?_)
    have tz_4 : z_4.toInt = z_3.toInt + x1_4.toInt := add_t ez_4 (show -2147483648 ≤ z_3.toInt + x1_4.toInt by omega) (show z_3.toInt + x1_4.toInt < 2147483648 by omega)
    refine lv_aload_n hx hb dX10_copyRow_16 rfl (lv_at hl 1 rfl) ?_
    refine lv_iload_n hx hb dX10_copyRow_17 rfl (lv_at hl 2 rfl) ?_
    refine lv_iload_n hx hb dX10_copyRow_18 rfl (lv_at hl 3 rfl) ?_
    refine lv_imul hx hb dX10_copyRow_19 ?_
    refine lv_topi (fun z_5 ez_5 => ?_)
    have tz_5 : z_5.toInt = 1 * x.toInt := mul_t ez_5 (show -2147483648 ≤ 1 * x.toInt by omega) (show 1 * x.toInt < 2147483648 by omega)
    refine lv_iload hx hb dX10_copyRow_20 (lv_at hl 0 rfl) ?_
    refine lv_iadd hx hb dX10_copyRow_22 ?_
    refine lv_topi (fun z_6 ez_6 => ?_)
    have tz_6 : z_6.toInt = z_5.toInt + x1_4.toInt := add_t ez_6 (show -2147483648 ≤ z_5.toInt + x1_4.toInt by omega) (show z_5.toInt + x1_4.toInt < 2147483648 by omega)
    refine t_iald (n := 5) (i := z_6) rfl (by decide) hx hb hK hT h_ar (hT.len h_ar (by decide)) ⟨by omega, by omega⟩ dX10_copyRow_23 (fun z_7 ez_7 rz_7 => ?_)
    have rz_7 : 0 ≤ z_7.toInt ∧ z_7.toInt ≤ 8 := rz_7
    refine t_iast (n := 5) (i := z_4) (x := z_7) rfl (by decide) hx hb hK hT hS h_ar (hT.len h_ar (by decide)) ⟨by omega, by omega⟩ (show 0 ≤ z_7.toInt ∧ z_7.toInt ≤ 8 from ⟨by omega, by omega⟩) dX10_copyRow_24 (fun H locs G_8 eG_8 hT hS => ?_)
    have hF := hF.wI eG_8 h_ar rfl
    obtain ⟨z_9, ez_9⟩ : ∃ y : Int32, y = x1_4 + 1 := ⟨_, rfl⟩
    have tz_9 : z_9.toInt = x1_4.toInt + 1 := add_t ez_9 (show -2147483648 ≤ x1_4.toInt + 1 by omega) (show x1_4.toInt + 1 < 2147483648 by omega)
    refine lv_iinc (v := z_9) (lv' := [(4, .int z_9), (0, .ref ar), (1, .int 1), (2, .int x), (3, .int y)]) hx hb dX10_copyRow_25 hl (k := 0) rfl (by rw [ez_9]; rfl) (by decide) rfl (fun ls hl => ?_)
    refine lv_goto (tgt := 3) hx hb dX10_copyRow_28 (by decide) ?_
    exact ih1 (z_9, G_8) _ _ _ (by show (1 - z_9.toInt).toNat < (1 - x1_4.toInt).toNat; omega) ⟨(by show 0 ≤ z_9.toInt; omega), (by show z_9.toInt ≤ 1; omega), by show ∀ j : Nat, G_8.1 ar j = if 1 * y.toInt.toNat ≤ j ∧ j < 1 * y.toInt.toNat + z_9.toInt.toNat then G.1 ar (1 * x.toInt.toNat + (j - 1 * y.toInt.toNat)) else G.1 ar j; have q1 : z_4.toNatClampNeg = 1 * y.toInt.toNat + x1_4.toInt.toNat := (show z_4.toInt.toNat = _ by omega); have q2 : z_6.toNatClampNeg = 1 * x.toInt.toNat + x1_4.toInt.toNat := (show z_6.toInt.toNat = _ by omega); have q3 := cp_step (A := 1 * x.toInt.toNat) (B := 1 * y.toInt.toNat) (k := x1_4.toInt.toNat) i1_2 (by omega); rw [← q1, ← q2] at q3; have q4 : z_9.toInt.toNat = x1_4.toInt.toNat + 1 := (by omega); rw [eG_8, wI_up, ez_7, q4]; exact q3, hF, hT, hS, lv_sub hl [0, 1, 2, 3, 4] rfl⟩
set_option maxHeartbeats 4000000 in
set_option maxRecDepth 100000 in
theorem t_X10_copyRow_73 (l : Launch) (D : va_G) (cy : Nat → ClassId) (base : Nat) (τ : Nat → Nat) (G : Gh) (ar : Nat) (h_ar : τ ar = 73) (x : Int32) (r_x : 0 ≤ x.toInt ∧ x.toInt ≤ 4) (y : Int32) (r_y : 0 ≤ y.toInt ∧ y.toInt ≤ 4) : MM l yX10_copyRow cX10_copyRow 5 none 0 0 0 D cy [.ref ar, .int 24, .int x, .int y] (PT D cy base τ G) (QT D cy base τ G [73] (fun v g => v = none ∧ ((∀ j : Nat, g.1 ar j = if 24 * y.toInt.toNat ≤ j ∧ j < 24 * y.toInt.toNat + 24 then G.1 ar (24 * x.toInt.toNat + (j - 24 * y.toInt.toNat)) else G.1 ar j)))) (RA base) := by
  refine MM.of (by decide) (Nat.le_of_ble_eq_true rfl) ?_
  intro p e s m below meth c C hPT ls hl
  obtain ⟨hx, hb, hr, hml, hown, hts, hlocks, hK, hnm⟩ := C
  obtain ⟨hZ, hT⟩ := hPT
  have hS : va_S (RA base) s.heap s.heap [] := va_S.rf
  have hF : Fr τ [73] G G := Fr.rf
  have hl : lv_has ls 5 [(0, .ref ar), (1, .int 24), (2, .int x), (3, .int y)] := hl
  refine lv_iconst (v := 0) hx hb dX10_copyRow_0 (by decide) ?_
  refine lv_istore (lv' := [(4, .int 0), (0, .ref ar), (1, .int 24), (2, .int x), (3, .int y)]) hx hb dX10_copyRow_1 hl (by decide) rfl (fun ls hl => ?_)
  refine W.loop (σ := Int32 × Gh) (fun w1 H locs ls => 0 ≤ w1.1.toInt ∧ w1.1.toInt ≤ 24 ∧ (∀ j : Nat, w1.2.1 ar j = if 24 * y.toInt.toNat ≤ j ∧ j < 24 * y.toInt.toNat + w1.1.toInt.toNat then G.1 ar (24 * x.toInt.toNat + (j - 24 * y.toInt.toNat)) else G.1 ar j) ∧ Fr τ [73] G w1.2 ∧ TY D cy base τ w1.2 H ∧ va_S (RA base) s.heap H locs ∧ lv_has ls 5 [(4, .int w1.1), (0, .ref ar), (1, .int 24), (2, .int x), (3, .int y)]) (fun w1 => (24 - w1.1.toInt).toNat) ?_ ((0 : Int32), G) _ _ _ ⟨(by show 0 ≤ (0 : Int32).toInt; decide), (by show (0 : Int32).toInt ≤ 24; decide), (by show ∀ j : Nat, G.1 ar j = if 24 * y.toInt.toNat ≤ j ∧ j < 24 * y.toInt.toNat + (0 : Int).toNat then G.1 ar (24 * x.toInt.toNat + (j - 24 * y.toInt.toNat)) else G.1 ar j; intro j; rw [if_neg (by omega)]), hF, hT, hS, lv_sub hl [0, 1, 2, 3, 4] rfl⟩
  intro w1 H locs ls hI ih1
  obtain ⟨x1_4, G_1⟩ := w1
  obtain ⟨i1_0, i1_1, i1_2, hF, hT, hS, hl⟩ := hI
  have i1_0 : 0 ≤ x1_4.toInt := i1_0
  have i1_1 : x1_4.toInt ≤ 24 := i1_1
  have i1_2 : (∀ j : Nat, G_1.1 ar j = if 24 * y.toInt.toNat ≤ j ∧ j < 24 * y.toInt.toNat + x1_4.toInt.toNat then G.1 ar (24 * x.toInt.toNat + (j - 24 * y.toInt.toNat)) else G.1 ar j) := i1_2
  have hF : Fr τ [73] G G_1 := hF
  have hT : TY D cy base τ G_1 H := hT
  have hS : va_S (RA base) s.heap H locs := hS
  have hl : lv_has ls 5 [(4, .int x1_4), (0, .ref ar), (1, .int 24), (2, .int x), (3, .int y)] := hl
  refine lv_iload hx hb dX10_copyRow_3 (lv_at hl 0 rfl) ?_
  refine lv_iload_n hx hb dX10_copyRow_5 rfl (lv_at hl 2 rfl) ?_
  refine lv_icmp_ge (tgt := 31) hx hb dX10_copyRow_6 (by decide) (fun c_2 => ?_) (fun c_2 => ?_)
  · skip
    have tc_2 : 24 ≤ x1_4.toInt := (fa_le _ _).mp c_2
    exact ret_v hx hb hr hlocks ⟨⟨hS.1, hS.2.1⟩, G_1, hF, ⟨rfl, (by have q9 := i1_2; rw [show x1_4.toInt.toNat = 24 by omega] at q9; exact q9)⟩, hT⟩ hS.2.2 (Nat.le_of_ble_eq_true rfl) (Nat.le_of_ble_eq_true rfl) dX10_copyRow_31
  · skip
    have tc_2 : ¬ 24 ≤ x1_4.toInt := fun h => c_2 ((fa_le _ _).mpr h)
    refine lv_aload_n hx hb dX10_copyRow_9 rfl (lv_at hl 1 rfl) ?_
    refine lv_iload_n hx hb dX10_copyRow_10 rfl (lv_at hl 2 rfl) ?_
    refine lv_iload_n hx hb dX10_copyRow_11 rfl (lv_at hl 4 rfl) ?_
    refine lv_imul hx hb dX10_copyRow_12 ?_
    refine lv_topi (fun z_3 ez_3 => ?_)
    have tz_3 : z_3.toInt = 24 * y.toInt := mul_t ez_3 (show -2147483648 ≤ 24 * y.toInt by omega) (show 24 * y.toInt < 2147483648 by omega)
    refine lv_iload hx hb dX10_copyRow_13 (lv_at hl 0 rfl) ?_
    refine lv_iadd hx hb dX10_copyRow_15 ?_
    refine lv_topi (fun z_4 ez_4 => ?_)
    have tz_4 : z_4.toInt = z_3.toInt + x1_4.toInt := add_t ez_4 (show -2147483648 ≤ z_3.toInt + x1_4.toInt by omega) (show z_3.toInt + x1_4.toInt < 2147483648 by omega)
    refine lv_aload_n hx hb dX10_copyRow_16 rfl (lv_at hl 1 rfl) ?_
    refine lv_iload_n hx hb dX10_copyRow_17 rfl (lv_at hl 2 rfl) ?_
    refine lv_iload_n hx hb dX10_copyRow_18 rfl (lv_at hl 3 rfl) ?_
    refine lv_imul hx hb dX10_copyRow_19 ?_
    refine lv_topi (fun z_5 ez_5 => ?_)
    have tz_5 : z_5.toInt = 24 * x.toInt := mul_t ez_5 (show -2147483648 ≤ 24 * x.toInt by omega) (show 24 * x.toInt < 2147483648 by omega)
    refine lv_iload hx hb dX10_copyRow_20 (lv_at hl 0 rfl) ?_
    refine lv_iadd hx hb dX10_copyRow_22 ?_
    refine lv_topi (fun z_6 ez_6 => ?_)
    have tz_6 : z_6.toInt = z_5.toInt + x1_4.toInt := add_t ez_6 (show -2147483648 ≤ z_5.toInt + x1_4.toInt by omega) (show z_5.toInt + x1_4.toInt < 2147483648 by omega)
    refine t_iald (n := 120) (i := z_6) rfl (by decide) hx hb hK hT h_ar (hT.len h_ar (by decide)) ⟨by omega, by omega⟩ dX10_copyRow_23 (fun z_7 ez_7 rz_7 => ?_)
    refine t_iast (n := 120) (i := z_4) (x := z_7) rfl (by decide) hx hb hK hT hS h_ar (hT.len h_ar (by decide)) ⟨by omega, by omega⟩ trivial dX10_copyRow_24 (fun H locs G_8 eG_8 hT hS => ?_)
    have hF := hF.wI eG_8 h_ar rfl
    obtain ⟨z_9, ez_9⟩ : ∃ y : Int32, y = x1_4 + 1 := ⟨_, rfl⟩
    have tz_9 : z_9.toInt = x1_4.toInt + 1 := add_t ez_9 (show -2147483648 ≤ x1_4.toInt + 1 by omega) (show x1_4.toInt + 1 < 2147483648 by omega)
    refine lv_iinc (v := z_9) (lv' := [(4, .int z_9), (0, .ref ar), (1, .int 24), (2, .int x), (3, .int y)]) hx hb dX10_copyRow_25 hl (k := 0) rfl (by rw [ez_9]; rfl) (by decide) rfl (fun ls hl => ?_)
    refine lv_goto (tgt := 3) hx hb dX10_copyRow_28 (by decide) ?_
    exact ih1 (z_9, G_8) _ _ _ (by show (24 - z_9.toInt).toNat < (24 - x1_4.toInt).toNat; omega) ⟨(by show 0 ≤ z_9.toInt; omega), (by show z_9.toInt ≤ 24; omega), by show ∀ j : Nat, G_8.1 ar j = if 24 * y.toInt.toNat ≤ j ∧ j < 24 * y.toInt.toNat + z_9.toInt.toNat then G.1 ar (24 * x.toInt.toNat + (j - 24 * y.toInt.toNat)) else G.1 ar j; have q1 : z_4.toNatClampNeg = 24 * y.toInt.toNat + x1_4.toInt.toNat := (show z_4.toInt.toNat = _ by omega); have q2 : z_6.toNatClampNeg = 24 * x.toInt.toNat + x1_4.toInt.toNat := (show z_6.toInt.toNat = _ by omega); have q3 := cp_step (A := 24 * x.toInt.toNat) (B := 24 * y.toInt.toNat) (k := x1_4.toInt.toNat) i1_2 (by omega); rw [← q1, ← q2] at q3; have q4 : z_9.toInt.toNat = x1_4.toInt.toNat + 1 := (by omega); rw [eG_8, wI_up, ez_7, q4]; exact q3, hF, hT, hS, lv_sub hl [0, 1, 2, 3, 4] rfl⟩
set_option maxHeartbeats 4000000 in
set_option maxRecDepth 100000 in
theorem t_X10_copyRow_74 (l : Launch) (D : va_G) (cy : Nat → ClassId) (base : Nat) (τ : Nat → Nat) (G : Gh) (ar : Nat) (h_ar : τ ar = 74) (x : Int32) (r_x : 0 ≤ x.toInt ∧ x.toInt ≤ 4) (y : Int32) (r_y : 0 ≤ y.toInt ∧ y.toInt ≤ 4) : MM l yX10_copyRow cX10_copyRow 5 none 0 0 0 D cy [.ref ar, .int 6, .int x, .int y] (PT D cy base τ G) (QT D cy base τ G [74] (fun v g => v = none ∧ ((∀ j : Nat, g.1 ar j = if 6 * y.toInt.toNat ≤ j ∧ j < 6 * y.toInt.toNat + 6 then G.1 ar (6 * x.toInt.toNat + (j - 6 * y.toInt.toNat)) else G.1 ar j)))) (RA base) := by
  refine MM.of (by decide) (Nat.le_of_ble_eq_true rfl) ?_
  intro p e s m below meth c C hPT ls hl
  obtain ⟨hx, hb, hr, hml, hown, hts, hlocks, hK, hnm⟩ := C
  obtain ⟨hZ, hT⟩ := hPT
  have hS : va_S (RA base) s.heap s.heap [] := va_S.rf
  have hF : Fr τ [74] G G := Fr.rf
  have hl : lv_has ls 5 [(0, .ref ar), (1, .int 6), (2, .int x), (3, .int y)] := hl
  refine lv_iconst (v := 0) hx hb dX10_copyRow_0 (by decide) ?_
  refine lv_istore (lv' := [(4, .int 0), (0, .ref ar), (1, .int 6), (2, .int x), (3, .int y)]) hx hb dX10_copyRow_1 hl (by decide) rfl (fun ls hl => ?_)
  refine W.loop (σ := Int32 × Gh) (fun w1 H locs ls => 0 ≤ w1.1.toInt ∧ w1.1.toInt ≤ 6 ∧ (∀ j : Nat, w1.2.1 ar j = if 6 * y.toInt.toNat ≤ j ∧ j < 6 * y.toInt.toNat + w1.1.toInt.toNat then G.1 ar (6 * x.toInt.toNat + (j - 6 * y.toInt.toNat)) else G.1 ar j) ∧ Fr τ [74] G w1.2 ∧ TY D cy base τ w1.2 H ∧ va_S (RA base) s.heap H locs ∧ lv_has ls 5 [(4, .int w1.1), (0, .ref ar), (1, .int 6), (2, .int x), (3, .int y)]) (fun w1 => (6 - w1.1.toInt).toNat) ?_ ((0 : Int32), G) _ _ _ ⟨(by show 0 ≤ (0 : Int32).toInt; decide), (by show (0 : Int32).toInt ≤ 6; decide), (by show ∀ j : Nat, G.1 ar j = if 6 * y.toInt.toNat ≤ j ∧ j < 6 * y.toInt.toNat + (0 : Int).toNat then G.1 ar (6 * x.toInt.toNat + (j - 6 * y.toInt.toNat)) else G.1 ar j; intro j; rw [if_neg (by omega)]), hF, hT, hS, lv_sub hl [0, 1, 2, 3, 4] rfl⟩
  intro w1 H locs ls hI ih1
  obtain ⟨x1_4, G_1⟩ := w1
  obtain ⟨i1_0, i1_1, i1_2, hF, hT, hS, hl⟩ := hI
  have i1_0 : 0 ≤ x1_4.toInt := i1_0
  have i1_1 : x1_4.toInt ≤ 6 := i1_1
  have i1_2 : (∀ j : Nat, G_1.1 ar j = if 6 * y.toInt.toNat ≤ j ∧ j < 6 * y.toInt.toNat + x1_4.toInt.toNat then G.1 ar (6 * x.toInt.toNat + (j - 6 * y.toInt.toNat)) else G.1 ar j) := i1_2
  have hF : Fr τ [74] G G_1 := hF
  have hT : TY D cy base τ G_1 H := hT
  have hS : va_S (RA base) s.heap H locs := hS
  have hl : lv_has ls 5 [(4, .int x1_4), (0, .ref ar), (1, .int 6), (2, .int x), (3, .int y)] := hl
  refine lv_iload hx hb dX10_copyRow_3 (lv_at hl 0 rfl) ?_
  refine lv_iload_n hx hb dX10_copyRow_5 rfl (lv_at hl 2 rfl) ?_
  refine lv_icmp_ge (tgt := 31) hx hb dX10_copyRow_6 (by decide) (fun c_2 => ?_) (fun c_2 => ?_)
  · skip
    have tc_2 : 6 ≤ x1_4.toInt := (fa_le _ _).mp c_2
    exact ret_v hx hb hr hlocks ⟨⟨hS.1, hS.2.1⟩, G_1, hF, ⟨rfl, (by have q9 := i1_2; rw [show x1_4.toInt.toNat = 6 by omega] at q9; exact q9)⟩, hT⟩ hS.2.2 (Nat.le_of_ble_eq_true rfl) (Nat.le_of_ble_eq_true rfl) dX10_copyRow_31
  · skip
    have tc_2 : ¬ 6 ≤ x1_4.toInt := fun h => c_2 ((fa_le _ _).mpr h)
    refine lv_aload_n hx hb dX10_copyRow_9 rfl (lv_at hl 1 rfl) ?_
    refine lv_iload_n hx hb dX10_copyRow_10 rfl (lv_at hl 2 rfl) ?_
    refine lv_iload_n hx hb dX10_copyRow_11 rfl (lv_at hl 4 rfl) ?_
    refine lv_imul hx hb dX10_copyRow_12 ?_
    refine lv_topi (fun z_3 ez_3 => ?_)
    have tz_3 : z_3.toInt = 6 * y.toInt := mul_t ez_3 (show -2147483648 ≤ 6 * y.toInt by omega) (show 6 * y.toInt < 2147483648 by omega)
    refine lv_iload hx hb dX10_copyRow_13 (lv_at hl 0 rfl) ?_
    refine lv_iadd hx hb dX10_copyRow_15 ?_
    refine lv_topi (fun z_4 ez_4 => ?_)
    have tz_4 : z_4.toInt = z_3.toInt + x1_4.toInt := add_t ez_4 (show -2147483648 ≤ z_3.toInt + x1_4.toInt by omega) (show z_3.toInt + x1_4.toInt < 2147483648 by omega)
    refine lv_aload_n hx hb dX10_copyRow_16 rfl (lv_at hl 1 rfl) ?_
    refine lv_iload_n hx hb dX10_copyRow_17 rfl (lv_at hl 2 rfl) ?_
    refine lv_iload_n hx hb dX10_copyRow_18 rfl (lv_at hl 3 rfl) ?_
    refine lv_imul hx hb dX10_copyRow_19 ?_
    refine lv_topi (fun z_5 ez_5 => ?_)
    have tz_5 : z_5.toInt = 6 * x.toInt := mul_t ez_5 (show -2147483648 ≤ 6 * x.toInt by omega) (show 6 * x.toInt < 2147483648 by omega)
    refine lv_iload hx hb dX10_copyRow_20 (lv_at hl 0 rfl) ?_
    refine lv_iadd hx hb dX10_copyRow_22 ?_
    refine lv_topi (fun z_6 ez_6 => ?_)
    have tz_6 : z_6.toInt = z_5.toInt + x1_4.toInt := add_t ez_6 (show -2147483648 ≤ z_5.toInt + x1_4.toInt by omega) (show z_5.toInt + x1_4.toInt < 2147483648 by omega)
    refine t_iald (n := 30) (i := z_6) rfl (by decide) hx hb hK hT h_ar (hT.len h_ar (by decide)) ⟨by omega, by omega⟩ dX10_copyRow_23 (fun z_7 ez_7 rz_7 => ?_)
    have qz_7 : (z_6.toInt.toNat % 6 = 0 → 0 ≤ z_7.toInt ∧ z_7.toInt ≤ 9) ∧ (z_6.toInt.toNat % 6 = 1 → 0 ≤ z_7.toInt ∧ z_7.toInt ≤ 50) ∧ (z_6.toInt.toNat % 6 = 3 → 0 ≤ z_7.toInt ∧ z_7.toInt ≤ 50) := rz_7
    refine t_iast (n := 30) (i := z_4) (x := z_7) rfl (by decide) hx hb hK hT hS h_ar (hT.len h_ar (by decide)) ⟨by omega, by omega⟩ (show (z_4.toInt.toNat % 6 = 0 → 0 ≤ z_7.toInt ∧ z_7.toInt ≤ 9) ∧ (z_4.toInt.toNat % 6 = 1 → 0 ≤ z_7.toInt ∧ z_7.toInt ≤ 50) ∧ (z_4.toInt.toNat % 6 = 3 → 0 ≤ z_7.toInt ∧ z_7.toInt ≤ 50) from by omega) dX10_copyRow_24 (fun H locs G_8 eG_8 hT hS => ?_)
    have hF := hF.wI eG_8 h_ar rfl
    obtain ⟨z_9, ez_9⟩ : ∃ y : Int32, y = x1_4 + 1 := ⟨_, rfl⟩
    have tz_9 : z_9.toInt = x1_4.toInt + 1 := add_t ez_9 (show -2147483648 ≤ x1_4.toInt + 1 by omega) (show x1_4.toInt + 1 < 2147483648 by omega)
    refine lv_iinc (v := z_9) (lv' := [(4, .int z_9), (0, .ref ar), (1, .int 6), (2, .int x), (3, .int y)]) hx hb dX10_copyRow_25 hl (k := 0) rfl (by rw [ez_9]; rfl) (by decide) rfl (fun ls hl => ?_)
    refine lv_goto (tgt := 3) hx hb dX10_copyRow_28 (by decide) ?_
    exact ih1 (z_9, G_8) _ _ _ (by show (6 - z_9.toInt).toNat < (6 - x1_4.toInt).toNat; omega) ⟨(by show 0 ≤ z_9.toInt; omega), (by show z_9.toInt ≤ 6; omega), by show ∀ j : Nat, G_8.1 ar j = if 6 * y.toInt.toNat ≤ j ∧ j < 6 * y.toInt.toNat + z_9.toInt.toNat then G.1 ar (6 * x.toInt.toNat + (j - 6 * y.toInt.toNat)) else G.1 ar j; have q1 : z_4.toNatClampNeg = 6 * y.toInt.toNat + x1_4.toInt.toNat := (show z_4.toInt.toNat = _ by omega); have q2 : z_6.toNatClampNeg = 6 * x.toInt.toNat + x1_4.toInt.toNat := (show z_6.toInt.toNat = _ by omega); have q3 := cp_step (A := 6 * x.toInt.toNat) (B := 6 * y.toInt.toNat) (k := x1_4.toInt.toNat) i1_2 (by omega); rw [← q1, ← q2] at q3; have q4 : z_9.toInt.toNat = x1_4.toInt.toNat + 1 := (by omega); rw [eG_8, wI_up, ez_7, q4]; exact q3, hF, hT, hS, lv_sub hl [0, 1, 2, 3, 4] rfl⟩
set_option maxHeartbeats 4000000 in
set_option maxRecDepth 100000 in
theorem t_X10_copyRow_76 (l : Launch) (D : va_G) (cy : Nat → ClassId) (base : Nat) (τ : Nat → Nat) (G : Gh) (ar : Nat) (h_ar : τ ar = 76) (x : Int32) (r_x : 0 ≤ x.toInt ∧ x.toInt ≤ 4) (y : Int32) (r_y : 0 ≤ y.toInt ∧ y.toInt ≤ 4) : MM l yX10_copyRow cX10_copyRow 5 none 0 0 0 D cy [.ref ar, .int 1, .int x, .int y] (PT D cy base τ G) (QT D cy base τ G [76] (fun v g => v = none ∧ ((∀ j : Nat, g.1 ar j = if 1 * y.toInt.toNat ≤ j ∧ j < 1 * y.toInt.toNat + 1 then G.1 ar (1 * x.toInt.toNat + (j - 1 * y.toInt.toNat)) else G.1 ar j)))) (RA base) := by
  refine MM.of (by decide) (Nat.le_of_ble_eq_true rfl) ?_
  intro p e s m below meth c C hPT ls hl
  obtain ⟨hx, hb, hr, hml, hown, hts, hlocks, hK, hnm⟩ := C
  obtain ⟨hZ, hT⟩ := hPT
  have hS : va_S (RA base) s.heap s.heap [] := va_S.rf
  have hF : Fr τ [76] G G := Fr.rf
  have hl : lv_has ls 5 [(0, .ref ar), (1, .int 1), (2, .int x), (3, .int y)] := hl
  refine lv_iconst (v := 0) hx hb dX10_copyRow_0 (by decide) ?_
  refine lv_istore (lv' := [(4, .int 0), (0, .ref ar), (1, .int 1), (2, .int x), (3, .int y)]) hx hb dX10_copyRow_1 hl (by decide) rfl (fun ls hl => ?_)
  refine W.loop (σ := Int32 × Gh) (fun w1 H locs ls => 0 ≤ w1.1.toInt ∧ w1.1.toInt ≤ 1 ∧ (∀ j : Nat, w1.2.1 ar j = if 1 * y.toInt.toNat ≤ j ∧ j < 1 * y.toInt.toNat + w1.1.toInt.toNat then G.1 ar (1 * x.toInt.toNat + (j - 1 * y.toInt.toNat)) else G.1 ar j) ∧ Fr τ [76] G w1.2 ∧ TY D cy base τ w1.2 H ∧ va_S (RA base) s.heap H locs ∧ lv_has ls 5 [(4, .int w1.1), (0, .ref ar), (1, .int 1), (2, .int x), (3, .int y)]) (fun w1 => (1 - w1.1.toInt).toNat) ?_ ((0 : Int32), G) _ _ _ ⟨(by show 0 ≤ (0 : Int32).toInt; decide), (by show (0 : Int32).toInt ≤ 1; decide), (by show ∀ j : Nat, G.1 ar j = if 1 * y.toInt.toNat ≤ j ∧ j < 1 * y.toInt.toNat + (0 : Int).toNat then G.1 ar (1 * x.toInt.toNat + (j - 1 * y.toInt.toNat)) else G.1 ar j; intro j; rw [if_neg (by omega)]), hF, hT, hS, lv_sub hl [0, 1, 2, 3, 4] rfl⟩
  intro w1 H locs ls hI ih1
  obtain ⟨x1_4, G_1⟩ := w1
  obtain ⟨i1_0, i1_1, i1_2, hF, hT, hS, hl⟩ := hI
  have i1_0 : 0 ≤ x1_4.toInt := i1_0
  have i1_1 : x1_4.toInt ≤ 1 := i1_1
  have i1_2 : (∀ j : Nat, G_1.1 ar j = if 1 * y.toInt.toNat ≤ j ∧ j < 1 * y.toInt.toNat + x1_4.toInt.toNat then G.1 ar (1 * x.toInt.toNat + (j - 1 * y.toInt.toNat)) else G.1 ar j) := i1_2
  have hF : Fr τ [76] G G_1 := hF
  have hT : TY D cy base τ G_1 H := hT
  have hS : va_S (RA base) s.heap H locs := hS
  have hl : lv_has ls 5 [(4, .int x1_4), (0, .ref ar), (1, .int 1), (2, .int x), (3, .int y)] := hl
  refine lv_iload hx hb dX10_copyRow_3 (lv_at hl 0 rfl) ?_
  refine lv_iload_n hx hb dX10_copyRow_5 rfl (lv_at hl 2 rfl) ?_
  refine lv_icmp_ge (tgt := 31) hx hb dX10_copyRow_6 (by decide) (fun c_2 => ?_) (fun c_2 => ?_)
  · skip
    have tc_2 : 1 ≤ x1_4.toInt := (fa_le _ _).mp c_2
    exact ret_v hx hb hr hlocks ⟨⟨hS.1, hS.2.1⟩, G_1, hF, ⟨rfl, (by have q9 := i1_2; rw [show x1_4.toInt.toNat = 1 by omega] at q9; exact q9)⟩, hT⟩ hS.2.2 (Nat.le_of_ble_eq_true rfl) (Nat.le_of_ble_eq_true rfl) dX10_copyRow_31
  · skip
    have tc_2 : ¬ 1 ≤ x1_4.toInt := fun h => c_2 ((fa_le _ _).mpr h)
    refine lv_aload_n hx hb dX10_copyRow_9 rfl (lv_at hl 1 rfl) ?_
    refine lv_iload_n hx hb dX10_copyRow_10 rfl (lv_at hl 2 rfl) ?_
    refine lv_iload_n hx hb dX10_copyRow_11 rfl (lv_at hl 4 rfl) ?_
    refine lv_imul hx hb dX10_copyRow_12 ?_
    refine lv_topi (fun z_3 ez_3 => ?_)
    have tz_3 : z_3.toInt = 1 * y.toInt := mul_t ez_3 (show -2147483648 ≤ 1 * y.toInt by omega) (show 1 * y.toInt < 2147483648 by omega)
    refine lv_iload hx hb dX10_copyRow_13 (lv_at hl 0 rfl) ?_
    refine lv_iadd hx hb dX10_copyRow_15 ?_
    refine lv_topi (fun z_4 ez_4 => ?_)
    have tz_4 : z_4.toInt = z_3.toInt + x1_4.toInt := add_t ez_4 (show -2147483648 ≤ z_3.toInt + x1_4.toInt by omega) (show z_3.toInt + x1_4.toInt < 2147483648 by omega)
    refine lv_aload_n hx hb dX10_copyRow_16 rfl (lv_at hl 1 rfl) ?_
    refine lv_iload_n hx hb dX10_copyRow_17 rfl (lv_at hl 2 rfl) ?_
    refine lv_iload_n hx hb dX10_copyRow_18 rfl (lv_at hl 3 rfl) ?_
    refine lv_imul hx hb dX10_copyRow_19 ?_
    refine lv_topi (fun z_5 ez_5 => ?_)
    have tz_5 : z_5.toInt = 1 * x.toInt := mul_t ez_5 (show -2147483648 ≤ 1 * x.toInt by omega) (show 1 * x.toInt < 2147483648 by omega)
    refine lv_iload hx hb dX10_copyRow_20 (lv_at hl 0 rfl) ?_
    refine lv_iadd hx hb dX10_copyRow_22 ?_
    refine lv_topi (fun z_6 ez_6 => ?_)
    have tz_6 : z_6.toInt = z_5.toInt + x1_4.toInt := add_t ez_6 (show -2147483648 ≤ z_5.toInt + x1_4.toInt by omega) (show z_5.toInt + x1_4.toInt < 2147483648 by omega)
    refine t_iald (n := 5) (i := z_6) rfl (by decide) hx hb hK hT h_ar (hT.len h_ar (by decide)) ⟨by omega, by omega⟩ dX10_copyRow_23 (fun z_7 ez_7 rz_7 => ?_)
    refine t_iast (n := 5) (i := z_4) (x := z_7) rfl (by decide) hx hb hK hT hS h_ar (hT.len h_ar (by decide)) ⟨by omega, by omega⟩ trivial dX10_copyRow_24 (fun H locs G_8 eG_8 hT hS => ?_)
    have hF := hF.wI eG_8 h_ar rfl
    obtain ⟨z_9, ez_9⟩ : ∃ y : Int32, y = x1_4 + 1 := ⟨_, rfl⟩
    have tz_9 : z_9.toInt = x1_4.toInt + 1 := add_t ez_9 (show -2147483648 ≤ x1_4.toInt + 1 by omega) (show x1_4.toInt + 1 < 2147483648 by omega)
    refine lv_iinc (v := z_9) (lv' := [(4, .int z_9), (0, .ref ar), (1, .int 1), (2, .int x), (3, .int y)]) hx hb dX10_copyRow_25 hl (k := 0) rfl (by rw [ez_9]; rfl) (by decide) rfl (fun ls hl => ?_)
    refine lv_goto (tgt := 3) hx hb dX10_copyRow_28 (by decide) ?_
    exact ih1 (z_9, G_8) _ _ _ (by show (1 - z_9.toInt).toNat < (1 - x1_4.toInt).toNat; omega) ⟨(by show 0 ≤ z_9.toInt; omega), (by show z_9.toInt ≤ 1; omega), by show ∀ j : Nat, G_8.1 ar j = if 1 * y.toInt.toNat ≤ j ∧ j < 1 * y.toInt.toNat + z_9.toInt.toNat then G.1 ar (1 * x.toInt.toNat + (j - 1 * y.toInt.toNat)) else G.1 ar j; have q1 : z_4.toNatClampNeg = 1 * y.toInt.toNat + x1_4.toInt.toNat := (show z_4.toInt.toNat = _ by omega); have q2 : z_6.toNatClampNeg = 1 * x.toInt.toNat + x1_4.toInt.toNat := (show z_6.toInt.toNat = _ by omega); have q3 := cp_step (A := 1 * x.toInt.toNat) (B := 1 * y.toInt.toNat) (k := x1_4.toInt.toNat) i1_2 (by omega); rw [← q1, ← q2] at q3; have q4 : z_9.toInt.toNat = x1_4.toInt.toNat + 1 := (by omega); rw [eG_8, wI_up, ez_7, q4]; exact q3, hF, hT, hS, lv_sub hl [0, 1, 2, 3, 4] rfl⟩
set_option maxHeartbeats 4000000 in
set_option maxRecDepth 100000 in
theorem t_X10_copyRow_77 (l : Launch) (D : va_G) (cy : Nat → ClassId) (base : Nat) (τ : Nat → Nat) (G : Gh) (ar : Nat) (h_ar : τ ar = 77) (x : Int32) (r_x : 0 ≤ x.toInt ∧ x.toInt ≤ 4) (y : Int32) (r_y : 0 ≤ y.toInt ∧ y.toInt ≤ 4) : MM l yX10_copyRow cX10_copyRow 5 none 0 0 0 D cy [.ref ar, .int 6, .int x, .int y] (PT D cy base τ G) (QT D cy base τ G [77] (fun v g => v = none ∧ ((∀ j : Nat, g.1 ar j = if 6 * y.toInt.toNat ≤ j ∧ j < 6 * y.toInt.toNat + 6 then G.1 ar (6 * x.toInt.toNat + (j - 6 * y.toInt.toNat)) else G.1 ar j)))) (RA base) := by
  refine MM.of (by decide) (Nat.le_of_ble_eq_true rfl) ?_
  intro p e s m below meth c C hPT ls hl
  obtain ⟨hx, hb, hr, hml, hown, hts, hlocks, hK, hnm⟩ := C
  obtain ⟨hZ, hT⟩ := hPT
  have hS : va_S (RA base) s.heap s.heap [] := va_S.rf
  have hF : Fr τ [77] G G := Fr.rf
  have hl : lv_has ls 5 [(0, .ref ar), (1, .int 6), (2, .int x), (3, .int y)] := hl
  refine lv_iconst (v := 0) hx hb dX10_copyRow_0 (by decide) ?_
  refine lv_istore (lv' := [(4, .int 0), (0, .ref ar), (1, .int 6), (2, .int x), (3, .int y)]) hx hb dX10_copyRow_1 hl (by decide) rfl (fun ls hl => ?_)
  refine W.loop (σ := Int32 × Gh) (fun w1 H locs ls => 0 ≤ w1.1.toInt ∧ w1.1.toInt ≤ 6 ∧ (∀ j : Nat, w1.2.1 ar j = if 6 * y.toInt.toNat ≤ j ∧ j < 6 * y.toInt.toNat + w1.1.toInt.toNat then G.1 ar (6 * x.toInt.toNat + (j - 6 * y.toInt.toNat)) else G.1 ar j) ∧ Fr τ [77] G w1.2 ∧ TY D cy base τ w1.2 H ∧ va_S (RA base) s.heap H locs ∧ lv_has ls 5 [(4, .int w1.1), (0, .ref ar), (1, .int 6), (2, .int x), (3, .int y)]) (fun w1 => (6 - w1.1.toInt).toNat) ?_ ((0 : Int32), G) _ _ _ ⟨(by show 0 ≤ (0 : Int32).toInt; decide), (by show (0 : Int32).toInt ≤ 6; decide), (by show ∀ j : Nat, G.1 ar j = if 6 * y.toInt.toNat ≤ j ∧ j < 6 * y.toInt.toNat + (0 : Int).toNat then G.1 ar (6 * x.toInt.toNat + (j - 6 * y.toInt.toNat)) else G.1 ar j; intro j; rw [if_neg (by omega)]), hF, hT, hS, lv_sub hl [0, 1, 2, 3, 4] rfl⟩
  intro w1 H locs ls hI ih1
  obtain ⟨x1_4, G_1⟩ := w1
  obtain ⟨i1_0, i1_1, i1_2, hF, hT, hS, hl⟩ := hI
  have i1_0 : 0 ≤ x1_4.toInt := i1_0
  have i1_1 : x1_4.toInt ≤ 6 := i1_1
  have i1_2 : (∀ j : Nat, G_1.1 ar j = if 6 * y.toInt.toNat ≤ j ∧ j < 6 * y.toInt.toNat + x1_4.toInt.toNat then G.1 ar (6 * x.toInt.toNat + (j - 6 * y.toInt.toNat)) else G.1 ar j) := i1_2
  have hF : Fr τ [77] G G_1 := hF
  have hT : TY D cy base τ G_1 H := hT
  have hS : va_S (RA base) s.heap H locs := hS
  have hl : lv_has ls 5 [(4, .int x1_4), (0, .ref ar), (1, .int 6), (2, .int x), (3, .int y)] := hl
  refine lv_iload hx hb dX10_copyRow_3 (lv_at hl 0 rfl) ?_
  refine lv_iload_n hx hb dX10_copyRow_5 rfl (lv_at hl 2 rfl) ?_
  refine lv_icmp_ge (tgt := 31) hx hb dX10_copyRow_6 (by decide) (fun c_2 => ?_) (fun c_2 => ?_)
  · skip
    have tc_2 : 6 ≤ x1_4.toInt := (fa_le _ _).mp c_2
    exact ret_v hx hb hr hlocks ⟨⟨hS.1, hS.2.1⟩, G_1, hF, ⟨rfl, (by have q9 := i1_2; rw [show x1_4.toInt.toNat = 6 by omega] at q9; exact q9)⟩, hT⟩ hS.2.2 (Nat.le_of_ble_eq_true rfl) (Nat.le_of_ble_eq_true rfl) dX10_copyRow_31
  · skip
    have tc_2 : ¬ 6 ≤ x1_4.toInt := fun h => c_2 ((fa_le _ _).mpr h)
    refine lv_aload_n hx hb dX10_copyRow_9 rfl (lv_at hl 1 rfl) ?_
    refine lv_iload_n hx hb dX10_copyRow_10 rfl (lv_at hl 2 rfl) ?_
    refine lv_iload_n hx hb dX10_copyRow_11 rfl (lv_at hl 4 rfl) ?_
    refine lv_imul hx hb dX10_copyRow_12 ?_
    refine lv_topi (fun z_3 ez_3 => ?_)
    have tz_3 : z_3.toInt = 6 * y.toInt := mul_t ez_3 (show -2147483648 ≤ 6 * y.toInt by omega) (show 6 * y.toInt < 2147483648 by omega)
    refine lv_iload hx hb dX10_copyRow_13 (lv_at hl 0 rfl) ?_
    refine lv_iadd hx hb dX10_copyRow_15 ?_
    refine lv_topi (fun z_4 ez_4 => ?_)
    have tz_4 : z_4.toInt = z_3.toInt + x1_4.toInt := add_t ez_4 (show -2147483648 ≤ z_3.toInt + x1_4.toInt by omega) (show z_3.toInt + x1_4.toInt < 2147483648 by omega)
    refine lv_aload_n hx hb dX10_copyRow_16 rfl (lv_at hl 1 rfl) ?_
    refine lv_iload_n hx hb dX10_copyRow_17 rfl (lv_at hl 2 rfl) ?_
    refine lv_iload_n hx hb dX10_copyRow_18 rfl (lv_at hl 3 rfl) ?_
    refine lv_imul hx hb dX10_copyRow_19 ?_
    refine lv_topi (fun z_5 ez_5 => ?_)
    have tz_5 : z_5.toInt = 6 * x.toInt := mul_t ez_5 (show -2147483648 ≤ 6 * x.toInt by omega) (show 6 * x.toInt < 2147483648 by omega)
    refine lv_iload hx hb dX10_copyRow_20 (lv_at hl 0 rfl) ?_
    refine lv_iadd hx hb dX10_copyRow_22 ?_
    refine lv_topi (fun z_6 ez_6 => ?_)
    have tz_6 : z_6.toInt = z_5.toInt + x1_4.toInt := add_t ez_6 (show -2147483648 ≤ z_5.toInt + x1_4.toInt by omega) (show z_5.toInt + x1_4.toInt < 2147483648 by omega)
    refine t_iald (n := 30) (i := z_6) rfl (by decide) hx hb hK hT h_ar (hT.len h_ar (by decide)) ⟨by omega, by omega⟩ dX10_copyRow_23 (fun z_7 ez_7 rz_7 => ?_)
    refine t_iast (n := 30) (i := z_4) (x := z_7) rfl (by decide) hx hb hK hT hS h_ar (hT.len h_ar (by decide)) ⟨by omega, by omega⟩ trivial dX10_copyRow_24 (fun H locs G_8 eG_8 hT hS => ?_)
    have hF := hF.wI eG_8 h_ar rfl
    obtain ⟨z_9, ez_9⟩ : ∃ y : Int32, y = x1_4 + 1 := ⟨_, rfl⟩
    have tz_9 : z_9.toInt = x1_4.toInt + 1 := add_t ez_9 (show -2147483648 ≤ x1_4.toInt + 1 by omega) (show x1_4.toInt + 1 < 2147483648 by omega)
    refine lv_iinc (v := z_9) (lv' := [(4, .int z_9), (0, .ref ar), (1, .int 6), (2, .int x), (3, .int y)]) hx hb dX10_copyRow_25 hl (k := 0) rfl (by rw [ez_9]; rfl) (by decide) rfl (fun ls hl => ?_)
    refine lv_goto (tgt := 3) hx hb dX10_copyRow_28 (by decide) ?_
    exact ih1 (z_9, G_8) _ _ _ (by show (6 - z_9.toInt).toNat < (6 - x1_4.toInt).toNat; omega) ⟨(by show 0 ≤ z_9.toInt; omega), (by show z_9.toInt ≤ 6; omega), by show ∀ j : Nat, G_8.1 ar j = if 6 * y.toInt.toNat ≤ j ∧ j < 6 * y.toInt.toNat + z_9.toInt.toNat then G.1 ar (6 * x.toInt.toNat + (j - 6 * y.toInt.toNat)) else G.1 ar j; have q1 : z_4.toNatClampNeg = 6 * y.toInt.toNat + x1_4.toInt.toNat := (show z_4.toInt.toNat = _ by omega); have q2 : z_6.toNatClampNeg = 6 * x.toInt.toNat + x1_4.toInt.toNat := (show z_6.toInt.toNat = _ by omega); have q3 := cp_step (A := 6 * x.toInt.toNat) (B := 6 * y.toInt.toNat) (k := x1_4.toInt.toNat) i1_2 (by omega); rw [← q1, ← q2] at q3; have q4 : z_9.toInt.toNat = x1_4.toInt.toNat + 1 := (by omega); rw [eG_8, wI_up, ez_7, q4]; exact q3, hF, hT, hS, lv_sub hl [0, 1, 2, 3, 4] rfl⟩
