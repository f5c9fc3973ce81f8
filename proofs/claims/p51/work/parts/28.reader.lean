theorem dX4_signAt_0 : decode cX4_signAt 0 = .ok (.iload_n 1, 1) := by decide +kernel
theorem dX4_signAt_1 : decode cX4_signAt 1 = .ok (.ifCond .lt 29, 3) := by decide +kernel
theorem dX4_signAt_30 : decode cX4_signAt 30 = .ok (.iconst (-1), 1) := by decide +kernel
theorem dX4_signAt_31 : decode cX4_signAt 31 = .ok (.ireturn, 1) := by decide +kernel
theorem dX4_signAt_4 : decode cX4_signAt 4 = .ok (.iload_n 1, 1) := by decide +kernel
theorem dX4_signAt_5 : decode cX4_signAt 5 = .ok (.aload_n 0, 1) := by decide +kernel
theorem dX4_signAt_6 : decode cX4_signAt 6 = .ok (.getfield 30, 3) := by decide +kernel
theorem dX4_signAt_9 : decode cX4_signAt 9 = .ok (.if_icmp .ge 21, 3) := by decide +kernel
theorem dX4_signAt_12 : decode cX4_signAt 12 = .ok (.iload_n 1, 1) := by decide +kernel
theorem dX4_signAt_13 : decode cX4_signAt 13 = .ok (.aload_n 0, 1) := by decide +kernel
theorem dX4_signAt_14 : decode cX4_signAt 14 = .ok (.getfield 15, 3) := by decide +kernel
theorem dX4_signAt_17 : decode cX4_signAt 17 = .ok (.arraylength, 1) := by decide +kernel
theorem dX4_signAt_18 : decode cX4_signAt 18 = .ok (.if_icmp .ge 12, 3) := by decide +kernel
theorem dX4_signAt_21 : decode cX4_signAt 21 = .ok (.aload_n 0, 1) := by decide +kernel
theorem dX4_signAt_22 : decode cX4_signAt 22 = .ok (.getfield 15, 3) := by decide +kernel
theorem dX4_signAt_25 : decode cX4_signAt 25 = .ok (.iload_n 1, 1) := by decide +kernel
theorem dX4_signAt_26 : decode cX4_signAt 26 = .ok (.baload, 1) := by decide +kernel
theorem dX4_signAt_27 : decode cX4_signAt 27 = .ok (.goto 4, 3) := by decide +kernel
theorem dX4_kindAt_0 : decode cX4_kindAt 0 = .ok (.iload_n 1, 1) := by decide +kernel
theorem dX4_kindAt_1 : decode cX4_kindAt 1 = .ok (.ifCond .lt 20, 3) := by decide +kernel
theorem dX4_kindAt_21 : decode cX4_kindAt 21 = .ok (.iconst 0, 1) := by decide +kernel
theorem dX4_kindAt_22 : decode cX4_kindAt 22 = .ok (.ireturn, 1) := by decide +kernel
theorem dX4_kindAt_4 : decode cX4_kindAt 4 = .ok (.iload_n 1, 1) := by decide +kernel
theorem dX4_kindAt_5 : decode cX4_kindAt 5 = .ok (.aload_n 0, 1) := by decide +kernel
theorem dX4_kindAt_6 : decode cX4_kindAt 6 = .ok (.getfield 30, 3) := by decide +kernel
theorem dX4_kindAt_9 : decode cX4_kindAt 9 = .ok (.if_icmp .ge 12, 3) := by decide +kernel
theorem dX4_kindAt_12 : decode cX4_kindAt 12 = .ok (.iload_n 1, 1) := by decide +kernel
theorem dX4_kindAt_13 : decode cX4_kindAt 13 = .ok (.aload_n 0, 1) := by decide +kernel
theorem dX4_kindAt_14 : decode cX4_kindAt 14 = .ok (.getfield 15, 3) := by decide +kernel
theorem dX4_kindAt_17 : decode cX4_kindAt 17 = .ok (.arraylength, 1) := by decide +kernel
theorem dX4_kindAt_18 : decode cX4_kindAt 18 = .ok (.if_icmp .lt 5, 3) := by decide +kernel
theorem dX4_kindAt_23 : decode cX4_kindAt 23 = .ok (.aload_n 0, 1) := by decide +kernel
theorem dX4_kindAt_24 : decode cX4_kindAt 24 = .ok (.getfield 15, 3) := by decide +kernel
theorem dX4_kindAt_27 : decode cX4_kindAt 27 = .ok (.iload_n 1, 1) := by decide +kernel
theorem dX4_kindAt_28 : decode cX4_kindAt 28 = .ok (.baload, 1) := by decide +kernel
theorem dX4_kindAt_29 : decode cX4_kindAt 29 = .ok (.istore_n 2, 1) := by decide +kernel
theorem dX4_kindAt_30 : decode cX4_kindAt 30 = .ok (.iload_n 2, 1) := by decide +kernel
theorem dX4_kindAt_31 : decode cX4_kindAt 31 = .ok (.bipush 97, 2) := by decide +kernel
theorem dX4_kindAt_33 : decode cX4_kindAt 33 = .ok (.if_icmp .lt 11, 3) := by decide +kernel
theorem dX4_kindAt_44 : decode cX4_kindAt 44 = .ok (.iload_n 2, 1) := by decide +kernel
theorem dX4_kindAt_45 : decode cX4_kindAt 45 = .ok (.bipush 48, 2) := by decide +kernel
theorem dX4_kindAt_47 : decode cX4_kindAt 47 = .ok (.if_icmp .lt 11, 3) := by decide +kernel
theorem dX4_kindAt_58 : decode cX4_kindAt 58 = .ok (.iload_n 2, 1) := by decide +kernel
theorem dX4_kindAt_59 : decode cX4_kindAt 59 = .ok (.bipush 32, 2) := by decide +kernel
theorem dX4_kindAt_61 : decode cX4_kindAt 61 = .ok (.if_icmp .eq 9, 3) := by decide +kernel
theorem dX4_kindAt_70 : decode cX4_kindAt 70 = .ok (.iconst 4, 1) := by decide +kernel
theorem dX4_kindAt_71 : decode cX4_kindAt 71 = .ok (.ireturn, 1) := by decide +kernel
theorem dX4_kindAt_64 : decode cX4_kindAt 64 = .ok (.iload_n 2, 1) := by decide +kernel
theorem dX4_kindAt_65 : decode cX4_kindAt 65 = .ok (.bipush 10, 2) := by decide +kernel
theorem dX4_kindAt_67 : decode cX4_kindAt 67 = .ok (.if_icmp .ne 5, 3) := by decide +kernel
theorem dX4_kindAt_72 : decode cX4_kindAt 72 = .ok (.iload_n 2, 1) := by decide +kernel
theorem dX4_kindAt_73 : decode cX4_kindAt 73 = .ok (.bipush 59, 2) := by decide +kernel
theorem dX4_kindAt_75 : decode cX4_kindAt 75 = .ok (.if_icmp .ne 7, 3) := by decide +kernel
theorem dX4_kindAt_82 : decode cX4_kindAt 82 = .ok (.iconst 5, 1) := by decide +kernel
theorem dX4_kindAt_83 : decode cX4_kindAt 83 = .ok (.ireturn, 1) := by decide +kernel
theorem dX4_kindAt_50 : decode cX4_kindAt 50 = .ok (.iload_n 2, 1) := by decide +kernel
theorem dX4_kindAt_51 : decode cX4_kindAt 51 = .ok (.bipush 57, 2) := by decide +kernel
theorem dX4_kindAt_53 : decode cX4_kindAt 53 = .ok (.if_icmp .gt 5, 3) := by decide +kernel
theorem dX4_kindAt_78 : decode cX4_kindAt 78 = .ok (.iconst 3, 1) := by decide +kernel
theorem dX4_kindAt_79 : decode cX4_kindAt 79 = .ok (.goto 4, 3) := by decide +kernel
theorem dX4_kindAt_56 : decode cX4_kindAt 56 = .ok (.iconst 2, 1) := by decide +kernel
theorem dX4_kindAt_57 : decode cX4_kindAt 57 = .ok (.ireturn, 1) := by decide +kernel
theorem dX4_kindAt_36 : decode cX4_kindAt 36 = .ok (.iload_n 2, 1) := by decide +kernel
theorem dX4_kindAt_37 : decode cX4_kindAt 37 = .ok (.bipush 122, 2) := by decide +kernel
theorem dX4_kindAt_39 : decode cX4_kindAt 39 = .ok (.if_icmp .gt 5, 3) := by decide +kernel
theorem dX4_kindAt_42 : decode cX4_kindAt 42 = .ok (.iconst 1, 1) := by decide +kernel
theorem dX4_kindAt_43 : decode cX4_kindAt 43 = .ok (.ireturn, 1) := by decide +kernel
theorem dX4_refuse_0 : decode cX4_refuse 0 = .ok (.aload_n 0, 1) := by decide +kernel
theorem dX4_refuse_1 : decode cX4_refuse 1 = .ok (.getfield 36, 3) := by decide +kernel
theorem dX4_refuse_4 : decode cX4_refuse 4 = .ok (.ifCond .ne 16, 3) := by decide +kernel
theorem dX4_refuse_20 : decode cX4_refuse 20 = .ok (.return_, 1) := by decide +kernel
theorem dX4_refuse_7 : decode cX4_refuse 7 = .ok (.aload_n 0, 1) := by decide +kernel
theorem dX4_refuse_8 : decode cX4_refuse 8 = .ok (.iload_n 1, 1) := by decide +kernel
theorem dX4_refuse_9 : decode cX4_refuse 9 = .ok (.putfield 36, 3) := by decide +kernel
theorem dX4_refuse_12 : decode cX4_refuse 12 = .ok (.aload_n 0, 1) := by decide +kernel
theorem dX4_refuse_13 : decode cX4_refuse 13 = .ok (.aload_n 0, 1) := by decide +kernel
theorem dX4_refuse_14 : decode cX4_refuse 14 = .ok (.getfield 210, 3) := by decide +kernel
theorem dX4_refuse_17 : decode cX4_refuse 17 = .ok (.putfield 9, 3) := by decide +kernel
theorem dX4_step_0 : decode cX4_step 0 = .ok (.aload_n 0, 1) := by decide +kernel
theorem dX4_step_1 : decode cX4_step 1 = .ok (.getfield 36, 3) := by decide +kernel
theorem dX4_step_4 : decode cX4_step 4 = .ok (.ifCond .eq 4, 3) := by decide +kernel
theorem dX4_step_8 : decode cX4_step 8 = .ok (.aload_n 0, 1) := by decide +kernel
theorem dX4_step_9 : decode cX4_step 9 = .ok (.aload_n 0, 1) := by decide +kernel
theorem dX4_step_10 : decode cX4_step 10 = .ok (.getfield 92, 3) := by decide +kernel
theorem dX4_step_13 : decode cX4_step 13 = .ok (.putfield 210, 3) := by decide +kernel
theorem dX4_step_16 : decode cX4_step 16 = .ok (.aload_n 0, 1) := by decide +kernel
theorem dX4_step_17 : decode cX4_step 17 = .ok (.getfield 210, 3) := by decide +kernel
theorem dX4_step_20 : decode cX4_step 20 = .ok (.aload_n 0, 1) := by decide +kernel
theorem dX4_step_21 : decode cX4_step 21 = .ok (.getfield 30, 3) := by decide +kernel
theorem dX4_step_24 : decode cX4_step 24 = .ok (.if_icmp .ge 28, 3) := by decide +kernel
theorem dX4_step_52 : decode cX4_step 52 = .ok (.aload_n 0, 1) := by decide +kernel
theorem dX4_step_53 : decode cX4_step 53 = .ok (.aload_n 0, 1) := by decide +kernel
theorem dX4_step_54 : decode cX4_step 54 = .ok (.aload_n 0, 1) := by decide +kernel
theorem dX4_step_55 : decode cX4_step 55 = .ok (.getfield 210, 3) := by decide +kernel
theorem dX4_step_58 : decode cX4_step 58 = .ok (.invokevirtual 226, 3) := by decide +kernel
theorem dX4_step_61 : decode cX4_step 61 = .ok (.putfield 33, 3) := by decide +kernel
theorem dX4_step_64 : decode cX4_step 64 = .ok (.aload_n 0, 1) := by decide +kernel
theorem dX4_step_65 : decode cX4_step 65 = .ok (.iconst 0, 1) := by decide +kernel
theorem dX4_step_66 : decode cX4_step 66 = .ok (.putfield 197, 3) := by decide +kernel
theorem dX4_step_69 : decode cX4_step 69 = .ok (.aload_n 0, 1) := by decide +kernel
theorem dX4_step_70 : decode cX4_step 70 = .ok (.aload_n 0, 1) := by decide +kernel
theorem dX4_step_71 : decode cX4_step 71 = .ok (.getfield 210, 3) := by decide +kernel
theorem dX4_step_74 : decode cX4_step 74 = .ok (.putfield 92, 3) := by decide +kernel
theorem dX4_step_77 : decode cX4_step 77 = .ok (.aload_n 0, 1) := by decide +kernel
theorem dX4_step_78 : decode cX4_step 78 = .ok (.getfield 33, 3) := by decide +kernel
theorem dX4_step_81 : decode cX4_step 81 = .ok (.ifCond .eq 7, 3) := by decide +kernel
theorem dX4_step_88 : decode cX4_step 88 = .ok (.iconst 0, 1) := by decide +kernel
theorem dX4_step_89 : decode cX4_step 89 = .ok (.istore_n 1, 1) := by decide +kernel
theorem dX4_step_90 : decode cX4_step 90 = .ok (.iload_n 1, 1) := by decide +kernel
theorem dX4_step_91 : decode cX4_step 91 = .ok (.ifCond .eq 100, 3) := by decide +kernel
theorem dX4_step_191 : decode cX4_step 191 = .ok (.return_, 1) := by decide +kernel
theorem dX4_step_94 : decode cX4_step 94 = .ok (.aload_n 0, 1) := by decide +kernel
theorem dX4_step_95 : decode cX4_step 95 = .ok (.getfield 92, 3) := by decide +kernel
theorem dX4_step_98 : decode cX4_step 98 = .ok (.aload_n 0, 1) := by decide +kernel
theorem dX4_step_99 : decode cX4_step 99 = .ok (.getfield 30, 3) := by decide +kernel
theorem dX4_step_102 : decode cX4_step 102 = .ok (.if_icmp .ge 89, 3) := by decide +kernel
theorem dX4_step_105 : decode cX4_step 105 = .ok (.aload_n 0, 1) := by decide +kernel
theorem dX4_step_106 : decode cX4_step 106 = .ok (.getfield 33, 3) := by decide +kernel
theorem dX4_step_109 : decode cX4_step 109 = .ok (.iconst 2, 1) := by decide +kernel
theorem dX4_step_110 : decode cX4_step 110 = .ok (.if_icmp .ne 31, 3) := by decide +kernel
theorem dX4_step_141 : decode cX4_step 141 = .ok (.aload_n 0, 1) := by decide +kernel
theorem dX4_step_142 : decode cX4_step 142 = .ok (.dup, 1) := by decide +kernel
theorem dX4_step_143 : decode cX4_step 143 = .ok (.getfield 92, 3) := by decide +kernel
theorem dX4_step_146 : decode cX4_step 146 = .ok (.iconst 1, 1) := by decide +kernel
theorem dX4_step_147 : decode cX4_step 147 = .ok (.iadd, 1) := by decide +kernel
theorem dX4_step_148 : decode cX4_step 148 = .ok (.putfield 92, 3) := by decide +kernel
theorem dX4_step_151 : decode cX4_step 151 = .ok (.aload_n 0, 1) := by decide +kernel
theorem dX4_step_152 : decode cX4_step 152 = .ok (.getfield 33, 3) := by decide +kernel
theorem dX4_step_155 : decode cX4_step 155 = .ok (.iconst 1, 1) := by decide +kernel
theorem dX4_step_156 : decode cX4_step 156 = .ok (.if_icmp .eq 11, 3) := by decide +kernel
theorem dX4_step_167 : decode cX4_step 167 = .ok (.aload_n 0, 1) := by decide +kernel
theorem dX4_step_168 : decode cX4_step 168 = .ok (.aload_n 0, 1) := by decide +kernel
theorem dX4_step_169 : decode cX4_step 169 = .ok (.getfield 92, 3) := by decide +kernel
theorem dX4_step_172 : decode cX4_step 172 = .ok (.invokevirtual 226, 3) := by decide +kernel
theorem dX4_step_175 : decode cX4_step 175 = .ok (.aload_n 0, 1) := by decide +kernel
theorem dX4_step_176 : decode cX4_step 176 = .ok (.getfield 33, 3) := by decide +kernel
theorem dX4_step_179 : decode cX4_step 179 = .ok (.if_icmp .ne 7, 3) := by decide +kernel
theorem dX4_step_186 : decode cX4_step 186 = .ok (.iconst 0, 1) := by decide +kernel
theorem dX4_step_187 : decode cX4_step 187 = .ok (.istore_n 1, 1) := by decide +kernel
theorem dX4_step_188 : decode cX4_step 188 = .ok (.goto (-98), 3) := by decide +kernel
theorem dX4_step_182 : decode cX4_step 182 = .ok (.iconst 1, 1) := by decide +kernel
theorem dX4_step_183 : decode cX4_step 183 = .ok (.goto 4, 3) := by decide +kernel
theorem dX4_step_159 : decode cX4_step 159 = .ok (.aload_n 0, 1) := by decide +kernel
theorem dX4_step_160 : decode cX4_step 160 = .ok (.getfield 33, 3) := by decide +kernel
theorem dX4_step_163 : decode cX4_step 163 = .ok (.iconst 2, 1) := by decide +kernel
theorem dX4_step_164 : decode cX4_step 164 = .ok (.if_icmp .ne 22, 3) := by decide +kernel
theorem dX4_step_113 : decode cX4_step 113 = .ok (.aload_n 0, 1) := by decide +kernel
theorem dX4_step_114 : decode cX4_step 114 = .ok (.ldc 229, 2) := by decide +kernel
theorem dX4_step_116 : decode cX4_step 116 = .ok (.aload_n 0, 1) := by decide +kernel
theorem dX4_step_117 : decode cX4_step 117 = .ok (.getfield 197, 3) := by decide +kernel
theorem dX4_step_120 : decode cX4_step 120 = .ok (.bipush 10, 2) := by decide +kernel
theorem dX4_step_122 : decode cX4_step 122 = .ok (.imul, 1) := by decide +kernel
theorem dX4_step_123 : decode cX4_step 123 = .ok (.aload_n 0, 1) := by decide +kernel
theorem dX4_step_124 : decode cX4_step 124 = .ok (.aload_n 0, 1) := by decide +kernel
theorem dX4_step_125 : decode cX4_step 125 = .ok (.getfield 92, 3) := by decide +kernel
theorem dX4_step_128 : decode cX4_step 128 = .ok (.invokevirtual 218, 3) := by decide +kernel
theorem dX4_step_131 : decode cX4_step 131 = .ok (.iadd, 1) := by decide +kernel
theorem dX4_step_132 : decode cX4_step 132 = .ok (.bipush 48, 2) := by decide +kernel
theorem dX4_step_134 : decode cX4_step 134 = .ok (.isub, 1) := by decide +kernel
theorem dX4_step_135 : decode cX4_step 135 = .ok (.invokestatic 86, 3) := by decide +kernel
theorem dX4_step_138 : decode cX4_step 138 = .ok (.putfield 197, 3) := by decide +kernel
theorem dX4_step_84 : decode cX4_step 84 = .ok (.iconst 1, 1) := by decide +kernel
theorem dX4_step_85 : decode cX4_step 85 = .ok (.goto 4, 3) := by decide +kernel
theorem dX4_step_27 : decode cX4_step 27 = .ok (.aload_n 0, 1) := by decide +kernel
theorem dX4_step_28 : decode cX4_step 28 = .ok (.aload_n 0, 1) := by decide +kernel
theorem dX4_step_29 : decode cX4_step 29 = .ok (.getfield 210, 3) := by decide +kernel
theorem dX4_step_32 : decode cX4_step 32 = .ok (.invokevirtual 226, 3) := by decide +kernel
theorem dX4_step_35 : decode cX4_step 35 = .ok (.iconst 4, 1) := by decide +kernel
theorem dX4_step_36 : decode cX4_step 36 = .ok (.if_icmp .ne 16, 3) := by decide +kernel
theorem dX4_step_39 : decode cX4_step 39 = .ok (.aload_n 0, 1) := by decide +kernel
theorem dX4_step_40 : decode cX4_step 40 = .ok (.dup, 1) := by decide +kernel
theorem dX4_step_41 : decode cX4_step 41 = .ok (.getfield 210, 3) := by decide +kernel
theorem dX4_step_44 : decode cX4_step 44 = .ok (.iconst 1, 1) := by decide +kernel
theorem dX4_step_45 : decode cX4_step 45 = .ok (.iadd, 1) := by decide +kernel
theorem dX4_step_46 : decode cX4_step 46 = .ok (.putfield 210, 3) := by decide +kernel
theorem dX4_step_49 : decode cX4_step 49 = .ok (.goto (-33), 3) := by decide +kernel
theorem dX4_step_7 : decode cX4_step 7 = .ok (.return_, 1) := by decide +kernel
theorem dX4_takeNumber_0 : decode cX4_takeNumber 0 = .ok (.aload_n 0, 1) := by decide +kernel
theorem dX4_takeNumber_1 : decode cX4_takeNumber 1 = .ok (.getfield 33, 3) := by decide +kernel
theorem dX4_takeNumber_4 : decode cX4_takeNumber 4 = .ok (.iconst 2, 1) := by decide +kernel
theorem dX4_takeNumber_5 : decode cX4_takeNumber 5 = .ok (.if_icmp .eq 11, 3) := by decide +kernel
theorem dX4_takeNumber_16 : decode cX4_takeNumber 16 = .ok (.aload_n 0, 1) := by decide +kernel
theorem dX4_takeNumber_17 : decode cX4_takeNumber 17 = .ok (.getfield 197, 3) := by decide +kernel
theorem dX4_takeNumber_20 : decode cX4_takeNumber 20 = .ok (.iload_n 1, 1) := by decide +kernel
theorem dX4_takeNumber_21 : decode cX4_takeNumber 21 = .ok (.if_icmp .lt 11, 3) := by decide +kernel
theorem dX4_takeNumber_32 : decode cX4_takeNumber 32 = .ok (.aload_n 0, 1) := by decide +kernel
theorem dX4_takeNumber_33 : decode cX4_takeNumber 33 = .ok (.iconst 2, 1) := by decide +kernel
theorem dX4_takeNumber_34 : decode cX4_takeNumber 34 = .ok (.invokevirtual 79, 3) := by decide +kernel
theorem dX4_takeNumber_37 : decode cX4_takeNumber 37 = .ok (.aload_n 0, 1) := by decide +kernel
theorem dX4_takeNumber_38 : decode cX4_takeNumber 38 = .ok (.getfield 197, 3) := by decide +kernel
theorem dX4_takeNumber_41 : decode cX4_takeNumber 41 = .ok (.istore_n 3, 1) := by decide +kernel
theorem dX4_takeNumber_42 : decode cX4_takeNumber 42 = .ok (.aload_n 0, 1) := by decide +kernel
theorem dX4_takeNumber_43 : decode cX4_takeNumber 43 = .ok (.invokevirtual 105, 3) := by decide +kernel
theorem dX4_takeNumber_46 : decode cX4_takeNumber 46 = .ok (.aload_n 0, 1) := by decide +kernel
theorem dX4_takeNumber_47 : decode cX4_takeNumber 47 = .ok (.getfield 36, 3) := by decide +kernel
theorem dX4_takeNumber_50 : decode cX4_takeNumber 50 = .ok (.ifCond .ne 7, 3) := by decide +kernel
theorem dX4_takeNumber_57 : decode cX4_takeNumber 57 = .ok (.iload_n 1, 1) := by decide +kernel
theorem dX4_takeNumber_58 : decode cX4_takeNumber 58 = .ok (.ireturn, 1) := by decide +kernel
theorem dX4_takeNumber_53 : decode cX4_takeNumber 53 = .ok (.iload_n 3, 1) := by decide +kernel
theorem dX4_takeNumber_54 : decode cX4_takeNumber 54 = .ok (.goto 4, 3) := by decide +kernel
theorem dX4_takeNumber_24 : decode cX4_takeNumber 24 = .ok (.aload_n 0, 1) := by decide +kernel
theorem dX4_takeNumber_25 : decode cX4_takeNumber 25 = .ok (.getfield 197, 3) := by decide +kernel
theorem dX4_takeNumber_28 : decode cX4_takeNumber 28 = .ok (.iload_n 2, 1) := by decide +kernel
theorem dX4_takeNumber_29 : decode cX4_takeNumber 29 = .ok (.if_icmp .le 8, 3) := by decide +kernel
theorem dX4_takeNumber_8 : decode cX4_takeNumber 8 = .ok (.aload_n 0, 1) := by decide +kernel
theorem dX4_takeNumber_9 : decode cX4_takeNumber 9 = .ok (.iconst 1, 1) := by decide +kernel
theorem dX4_takeNumber_10 : decode cX4_takeNumber 10 = .ok (.invokevirtual 79, 3) := by decide +kernel
theorem dX4_takeNumber_13 : decode cX4_takeNumber 13 = .ok (.goto 24, 3) := by decide +kernel
theorem dX4_takeStop_0 : decode cX4_takeStop 0 = .ok (.aload_n 0, 1) := by decide +kernel
theorem dX4_takeStop_1 : decode cX4_takeStop 1 = .ok (.getfield 33, 3) := by decide +kernel
theorem dX4_takeStop_4 : decode cX4_takeStop 4 = .ok (.iconst 3, 1) := by decide +kernel
theorem dX4_takeStop_5 : decode cX4_takeStop 5 = .ok (.if_icmp .eq 9, 3) := by decide +kernel
theorem dX4_takeStop_14 : decode cX4_takeStop 14 = .ok (.aload_n 0, 1) := by decide +kernel
theorem dX4_takeStop_15 : decode cX4_takeStop 15 = .ok (.getfield 22, 3) := by decide +kernel
theorem dX4_takeStop_18 : decode cX4_takeStop 18 = .ok (.dup, 1) := by decide +kernel
theorem dX4_takeStop_19 : decode cX4_takeStop 19 = .ok (.getfield 39, 3) := by decide +kernel
theorem dX4_takeStop_22 : decode cX4_takeStop 22 = .ok (.iconst 1, 1) := by decide +kernel
theorem dX4_takeStop_23 : decode cX4_takeStop 23 = .ok (.iadd, 1) := by decide +kernel
theorem dX4_takeStop_24 : decode cX4_takeStop 24 = .ok (.putfield 39, 3) := by decide +kernel
theorem dX4_takeStop_27 : decode cX4_takeStop 27 = .ok (.aload_n 0, 1) := by decide +kernel
theorem dX4_takeStop_28 : decode cX4_takeStop 28 = .ok (.invokevirtual 105, 3) := by decide +kernel
theorem dX4_takeStop_31 : decode cX4_takeStop 31 = .ok (.return_, 1) := by decide +kernel
theorem dX4_takeStop_8 : decode cX4_takeStop 8 = .ok (.aload_n 0, 1) := by decide +kernel
theorem dX4_takeStop_9 : decode cX4_takeStop 9 = .ok (.iconst 1, 1) := by decide +kernel
theorem dX4_takeStop_10 : decode cX4_takeStop 10 = .ok (.invokevirtual 79, 3) := by decide +kernel
theorem dX4_takeStop_13 : decode cX4_takeStop 13 = .ok (.return_, 1) := by decide +kernel
theorem sV_X4_226 : SiteV RX4 226 yX4_kindAt cX4_kindAt 3 (some .int) 1 := ⟨ml_X4_226, im_X4_kindAt, se_X4_kindAt, ini_X4, co_X4_kindAt, by decide +kernel⟩
theorem sV_X4_218 : SiteV RX4 218 yX4_signAt cX4_signAt 2 (some .int) 1 := ⟨ml_X4_218, im_X4_signAt, se_X4_signAt, ini_X4, co_X4_signAt, by decide +kernel⟩
theorem sV_X4_79 : SiteV RX4 79 yX4_refuse cX4_refuse 2 none 1 := ⟨ml_X4_79, im_X4_refuse, se_X4_refuse, ini_X4, co_X4_refuse, by decide +kernel⟩
theorem sV_X4_105 : SiteV RX4 105 yX4_step cX4_step 2 none 0 := ⟨ml_X4_105, im_X4_step, se_X4_step, ini_X4, co_X4_step, by decide +kernel⟩
set_option maxHeartbeats 4000000 in
set_option maxRecDepth 100000 in
theorem t_X4_signAt (l : Launch) (D : va_G) (cy : Nat → ClassId) (base : Nat) (τ : Nat → Nat) (G : Gh) (a : Nat) (h_a : τ a = 2) (v : Int32) : MM l yX4_signAt cX4_signAt 2 (some .int) 0 0 0 D cy [.ref a, .int v] (PT D cy base τ G) (PuI (fun r => True)) noF := by
  refine MM.of (by decide) (Nat.le_of_ble_eq_true rfl) ?_
  intro p e s m below meth c C hPT ls hl
  obtain ⟨hx, hb, hr, hml, hown, hts, hlocks, hK, hnm⟩ := C
  obtain ⟨hZ, hT⟩ := hPT
  have hS : va_S (RA base) s.heap s.heap [] := va_S.rf
  have hl : lv_has ls 2 [(0, .ref a), (1, .int v)] := hl
  refine lv_iload_n hx hb dX4_signAt_0 rfl (lv_at hl 1 rfl) ?_
  refine lv_if_lt (tgt := 30) hx hb dX4_signAt_1 (by decide) (fun c_1 => ?_) (fun c_1 => ?_)
  · skip
    have tc_1 : v.toInt < 0 := (fa_lt _ _).mp c_1
    refine lv_iconst (v := (-1)) hx hb dX4_signAt_30 (by decide) ?_
    exact ret_i hx hb hr hlocks ⟨rfl, _, rfl, trivial⟩ (fun _ h => absurd h List.not_mem_nil) (Nat.le_refl _) (Nat.le_refl _) dX4_signAt_31
  · skip
    have tc_1 : ¬ v.toInt < 0 := fun h => c_1 ((fa_lt _ _).mpr h)
    refine lv_iload_n hx hb dX4_signAt_4 rfl (lv_at hl 1 rfl) ?_
    refine lv_aload_n hx hb dX4_signAt_5 rfl (lv_at hl 0 rfl) ?_
    refine t_geti cf_2 hx hb hts hown hK hT h_a (k := 3) rfl fl_X4_30 (fun _ h9 => h9) dX4_signAt_6 (fun z_2 ez_2 rz_2 => ?_)
    have ez_2 : z_2 = G.1 a 3 := ez_2
    have rz_2 : 0 ≤ z_2.toInt ∧ z_2.toInt ≤ 1600 := rz_2
    refine lv_icmp_ge (tgt := 30) hx hb dX4_signAt_9 (by decide) (fun c_3 => ?_) (fun c_3 => ?_)
    · skip
      have tc_3 : z_2.toInt ≤ v.toInt := (fa_le _ _).mp c_3
      refine lv_iconst (v := (-1)) hx hb dX4_signAt_30 (by decide) ?_
      exact ret_i hx hb hr hlocks ⟨rfl, _, rfl, trivial⟩ (fun _ h => absurd h List.not_mem_nil) (Nat.le_refl _) (Nat.le_refl _) dX4_signAt_31
    · skip
      have tc_3 : ¬ z_2.toInt ≤ v.toInt := fun h => c_3 ((fa_le _ _).mpr h)
      refine lv_iload_n hx hb dX4_signAt_12 rfl (lv_at hl 1 rfl) ?_
      refine lv_aload_n hx hb dX4_signAt_13 rfl (lv_at hl 0 rfl) ?_
      refine t_getr cf_2 hx hb hts hown hK hT h_a (k := 2) (P := fun q => τ q = 20) rfl (fun _ h9 => h9) fl_X4_15 (fun _ h9 => h9) dX4_signAt_14 (fun q_4 eq_4 hq_4 => ?_)
      obtain ⟨n_5, en_5⟩ : ∃ y : Nat, y = G.2.2.2 q_4 := ⟨_, rfl⟩
      have rn_5 : n_5 ≤ 1600 := by rw [en_5]; exact hT.len hq_4 (by decide)
      refine t_alen (v := Int32.ofNat n_5) rfl (by decide) hx hb hK hT hq_4 rfl (by rw [show _ = n_5 from (en_5.symm)]) dX4_signAt_17 ?_
      refine lv_topi (fun z_6 ez_6 => ?_)
      have tz_6 : z_6.toInt = n_5 := len_t ez_6 (by omega)
      refine lv_icmp_ge (tgt := 30) hx hb dX4_signAt_18 (by decide) (fun c_7 => ?_) (fun c_7 => ?_)
      · skip
        have tc_7 : z_6.toInt ≤ v.toInt := (fa_le _ _).mp c_7
        refine lv_iconst (v := (-1)) hx hb dX4_signAt_30 (by decide) ?_
        exact ret_i hx hb hr hlocks ⟨rfl, _, rfl, trivial⟩ (fun _ h => absurd h List.not_mem_nil) (Nat.le_refl _) (Nat.le_refl _) dX4_signAt_31
      · skip
        have tc_7 : ¬ z_6.toInt ≤ v.toInt := fun h => c_7 ((fa_le _ _).mpr h)
        refine lv_aload_n hx hb dX4_signAt_21 rfl (lv_at hl 0 rfl) ?_
        refine t_getr cf_2 hx hb hts hown hK hT h_a (k := 2) (P := fun q => τ q = 20) rfl (fun _ h9 => h9) fl_X4_15 (fun _ h9 => h9) dX4_signAt_22 (fun q_8 eq_8 hq_8 => ?_)
        have w_9 : q_4 = q_8 := Option.some.inj (eq_4.symm.trans eq_8)
        subst w_9
        refine lv_iload_n hx hb dX4_signAt_25 rfl (lv_at hl 1 rfl) ?_
        refine t_bald (n := n_5) (i := v) rfl (by decide) hx hb hK hT hq_4 (en_5.symm) ⟨by omega, by omega⟩ dX4_signAt_26 (fun z_10 ez_10 rz_10 => ?_)
        refine lv_goto (tgt := 31) hx hb dX4_signAt_27 (by decide) ?_
        exact ret_i hx hb hr hlocks ⟨rfl, _, rfl, trivial⟩ (fun _ h => absurd h List.not_mem_nil) (Nat.le_refl _) (Nat.le_refl _) dX4_signAt_31
set_option maxHeartbeats 4000000 in
set_option maxRecDepth 100000 in
theorem t_X4_kindAt (l : Launch) (D : va_G) (cy : Nat → ClassId) (base : Nat) (τ : Nat → Nat) (G : Gh) (a : Nat) (h_a : τ a = 2) (v : Int32) : MM l yX4_kindAt cX4_kindAt 3 (some .int) 0 0 0 D cy [.ref a, .int v] (PT D cy base τ G) (PuI (fun r => True)) noF := by
  refine MM.of (by decide) (Nat.le_of_ble_eq_true rfl) ?_
  intro p e s m below meth c C hPT ls hl
  obtain ⟨hx, hb, hr, hml, hown, hts, hlocks, hK, hnm⟩ := C
  obtain ⟨hZ, hT⟩ := hPT
  have hS : va_S (RA base) s.heap s.heap [] := va_S.rf
  have hl : lv_has ls 3 [(0, .ref a), (1, .int v)] := hl
  refine lv_iload_n hx hb dX4_kindAt_0 rfl (lv_at hl 1 rfl) ?_
  refine lv_if_lt (tgt := 21) hx hb dX4_kindAt_1 (by decide) (fun c_1 => ?_) (fun c_1 => ?_)
  · skip
    have tc_1 : v.toInt < 0 := (fa_lt _ _).mp c_1
    refine lv_iconst (v := 0) hx hb dX4_kindAt_21 (by decide) ?_
    exact ret_i hx hb hr hlocks ⟨rfl, _, rfl, trivial⟩ (fun _ h => absurd h List.not_mem_nil) (Nat.le_refl _) (Nat.le_refl _) dX4_kindAt_22
  · skip
    have tc_1 : ¬ v.toInt < 0 := fun h => c_1 ((fa_lt _ _).mpr h)
    refine lv_iload_n hx hb dX4_kindAt_4 rfl (lv_at hl 1 rfl) ?_
    refine lv_aload_n hx hb dX4_kindAt_5 rfl (lv_at hl 0 rfl) ?_
    refine t_geti cf_2 hx hb hts hown hK hT h_a (k := 3) rfl fl_X4_30 (fun _ h9 => h9) dX4_kindAt_6 (fun z_2 ez_2 rz_2 => ?_)
    have ez_2 : z_2 = G.1 a 3 := ez_2
    have rz_2 : 0 ≤ z_2.toInt ∧ z_2.toInt ≤ 1600 := rz_2
    refine lv_icmp_ge (tgt := 21) hx hb dX4_kindAt_9 (by decide) (fun c_3 => ?_) (fun c_3 => ?_)
    · skip
      have tc_3 : z_2.toInt ≤ v.toInt := (fa_le _ _).mp c_3
      refine lv_iconst (v := 0) hx hb dX4_kindAt_21 (by decide) ?_
      exact ret_i hx hb hr hlocks ⟨rfl, _, rfl, trivial⟩ (fun _ h => absurd h List.not_mem_nil) (Nat.le_refl _) (Nat.le_refl _) dX4_kindAt_22
    · skip
      have tc_3 : ¬ z_2.toInt ≤ v.toInt := fun h => c_3 ((fa_le _ _).mpr h)
      refine lv_iload_n hx hb dX4_kindAt_12 rfl (lv_at hl 1 rfl) ?_
      refine lv_aload_n hx hb dX4_kindAt_13 rfl (lv_at hl 0 rfl) ?_
      refine t_getr cf_2 hx hb hts hown hK hT h_a (k := 2) (P := fun q => τ q = 20) rfl (fun _ h9 => h9) fl_X4_15 (fun _ h9 => h9) dX4_kindAt_14 (fun q_4 eq_4 hq_4 => ?_)
      obtain ⟨n_5, en_5⟩ : ∃ y : Nat, y = G.2.2.2 q_4 := ⟨_, rfl⟩
      have rn_5 : n_5 ≤ 1600 := by rw [en_5]; exact hT.len hq_4 (by decide)
      refine t_alen (v := Int32.ofNat n_5) rfl (by decide) hx hb hK hT hq_4 rfl (by rw [show _ = n_5 from (en_5.symm)]) dX4_kindAt_17 ?_
      refine lv_topi (fun z_6 ez_6 => ?_)
      have tz_6 : z_6.toInt = n_5 := len_t ez_6 (by omega)
      refine lv_icmp_lt (tgt := 23) hx hb dX4_kindAt_18 (by decide) (fun c_7 => ?_) (fun c_7 => ?_)
      · skip
        have tc_7 : v.toInt < z_6.toInt := (fa_lt _ _).mp c_7
        refine lv_aload_n hx hb dX4_kindAt_23 rfl (lv_at hl 0 rfl) ?_
        refine t_getr cf_2 hx hb hts hown hK hT h_a (k := 2) (P := fun q => τ q = 20) rfl (fun _ h9 => h9) fl_X4_15 (fun _ h9 => h9) dX4_kindAt_24 (fun q_8 eq_8 hq_8 => ?_)
        have w_9 : q_4 = q_8 := Option.some.inj (eq_4.symm.trans eq_8)
        subst w_9
        refine lv_iload_n hx hb dX4_kindAt_27 rfl (lv_at hl 1 rfl) ?_
        refine t_bald (n := n_5) (i := v) rfl (by decide) hx hb hK hT hq_4 (en_5.symm) ⟨by omega, by omega⟩ dX4_kindAt_28 (fun z_10 ez_10 rz_10 => ?_)
        refine lv_istore_n (lv' := [(2, .int z_10), (0, .ref a), (1, .int v)]) hx hb dX4_kindAt_29 rfl hl (by decide) rfl (fun ls hl => ?_)
        refine lv_iload_n hx hb dX4_kindAt_30 rfl (lv_at hl 0 rfl) ?_
        refine lv_bipush (v := 97) hx hb dX4_kindAt_31 (by decide) ?_
        refine lv_icmp_lt (tgt := 44) hx hb dX4_kindAt_33 (by decide) (fun c_11 => ?_) (fun c_11 => ?_)
        · skip
          have tc_11 : z_10.toInt < 97 := (fa_lt _ _).mp c_11
          refine lv_iload_n hx hb dX4_kindAt_44 rfl (lv_at hl 0 rfl) ?_
          refine lv_bipush (v := 48) hx hb dX4_kindAt_45 (by decide) ?_
          refine lv_icmp_lt (tgt := 58) hx hb dX4_kindAt_47 (by decide) (fun c_12 => ?_) (fun c_12 => ?_)
          · skip
            have tc_12 : z_10.toInt < 48 := (fa_lt _ _).mp c_12
            refine lv_iload_n hx hb dX4_kindAt_58 rfl (lv_at hl 0 rfl) ?_
            refine lv_bipush (v := 32) hx hb dX4_kindAt_59 (by decide) ?_
            refine lv_icmp_eq (tgt := 70) hx hb dX4_kindAt_61 (by decide) (fun c_13 => ?_) (fun c_13 => ?_)
            · skip
              have tc_13 : z_10.toInt = 32 := (fa_eq _ _).mp c_13
              refine lv_iconst (v := 4) hx hb dX4_kindAt_70 (by decide) ?_
              exact ret_i hx hb hr hlocks ⟨rfl, _, rfl, trivial⟩ (fun _ h => absurd h List.not_mem_nil) (Nat.le_refl _) (Nat.le_refl _) dX4_kindAt_71
            · skip
              have tc_13 : ¬ z_10.toInt = 32 := fun h => c_13 ((fa_eq _ _).mpr h)
              refine lv_iload_n hx hb dX4_kindAt_64 rfl (lv_at hl 0 rfl) ?_
              refine lv_bipush (v := 10) hx hb dX4_kindAt_65 (by decide) ?_
              refine lv_icmp_ne (tgt := 72) hx hb dX4_kindAt_67 (by decide) (fun c_14 => ?_) (fun c_14 => ?_)
              · skip
                have tc_14 : ¬ z_10.toInt = 10 := fun h => c_14 ((fa_eq _ _).mpr h)
                refine lv_iload_n hx hb dX4_kindAt_72 rfl (lv_at hl 0 rfl) ?_
                refine lv_bipush (v := 59) hx hb dX4_kindAt_73 (by decide) ?_
                refine lv_icmp_ne (tgt := 82) hx hb dX4_kindAt_75 (by decide) (fun c_15 => ?_) (fun c_15 => ?_)
                · skip
                  have tc_15 : ¬ z_10.toInt = 59 := fun h => c_15 ((fa_eq _ _).mpr h)
                  refine lv_iconst (v := 5) hx hb dX4_kindAt_82 (by decide) ?_
                  exact ret_i hx hb hr hlocks ⟨rfl, _, rfl, trivial⟩ (fun _ h => absurd h List.not_mem_nil) (Nat.le_refl _) (Nat.le_refl _) dX4_kindAt_83
                · skip
                  have tc_15 : z_10.toInt = 59 := (fa_eq _ _).mp c_15
                  exfalso; omega
              · skip
                have tc_14 : z_10.toInt = 10 := (fa_eq _ _).mp c_14
                refine lv_iconst (v := 4) hx hb dX4_kindAt_70 (by decide) ?_
                exact ret_i hx hb hr hlocks ⟨rfl, _, rfl, trivial⟩ (fun _ h => absurd h List.not_mem_nil) (Nat.le_refl _) (Nat.le_refl _) dX4_kindAt_71
          · skip
            have tc_12 : ¬ z_10.toInt < 48 := fun h => c_12 ((fa_lt _ _).mpr h)
            refine lv_iload_n hx hb dX4_kindAt_50 rfl (lv_at hl 0 rfl) ?_
            refine lv_bipush (v := 57) hx hb dX4_kindAt_51 (by decide) ?_
            refine lv_icmp_gt (tgt := 58) hx hb dX4_kindAt_53 (by decide) (fun c_16 => ?_) (fun c_16 => ?_)
            · skip
              have tc_16 : 57 < z_10.toInt := (fa_lt _ _).mp c_16
              refine lv_iload_n hx hb dX4_kindAt_58 rfl (lv_at hl 0 rfl) ?_
              refine lv_bipush (v := 32) hx hb dX4_kindAt_59 (by decide) ?_
              refine lv_icmp_eq (tgt := 70) hx hb dX4_kindAt_61 (by decide) (fun c_17 => ?_) (fun c_17 => ?_)
              · skip
                have tc_17 : z_10.toInt = 32 := (fa_eq _ _).mp c_17
                exfalso; omega
              · skip
                have tc_17 : ¬ z_10.toInt = 32 := fun h => c_17 ((fa_eq _ _).mpr h)
                refine lv_iload_n hx hb dX4_kindAt_64 rfl (lv_at hl 0 rfl) ?_
                refine lv_bipush (v := 10) hx hb dX4_kindAt_65 (by decide) ?_
                refine lv_icmp_ne (tgt := 72) hx hb dX4_kindAt_67 (by decide) (fun c_18 => ?_) (fun c_18 => ?_)
                · skip
                  have tc_18 : ¬ z_10.toInt = 10 := fun h => c_18 ((fa_eq _ _).mpr h)
                  refine lv_iload_n hx hb dX4_kindAt_72 rfl (lv_at hl 0 rfl) ?_
                  refine lv_bipush (v := 59) hx hb dX4_kindAt_73 (by decide) ?_
                  refine lv_icmp_ne (tgt := 82) hx hb dX4_kindAt_75 (by decide) (fun c_19 => ?_) (fun c_19 => ?_)
                  · skip
                    have tc_19 : ¬ z_10.toInt = 59 := fun h => c_19 ((fa_eq _ _).mpr h)
                    refine lv_iconst (v := 5) hx hb dX4_kindAt_82 (by decide) ?_
                    exact ret_i hx hb hr hlocks ⟨rfl, _, rfl, trivial⟩ (fun _ h => absurd h List.not_mem_nil) (Nat.le_refl _) (Nat.le_refl _) dX4_kindAt_83
                  · skip
                    have tc_19 : z_10.toInt = 59 := (fa_eq _ _).mp c_19
                    refine lv_iconst (v := 3) hx hb dX4_kindAt_78 (by decide) ?_
                    refine lv_goto (tgt := 83) hx hb dX4_kindAt_79 (by decide) ?_
                    exact ret_i hx hb hr hlocks ⟨rfl, _, rfl, trivial⟩ (fun _ h => absurd h List.not_mem_nil) (Nat.le_refl _) (Nat.le_refl _) dX4_kindAt_83
                · skip
                  have tc_18 : z_10.toInt = 10 := (fa_eq _ _).mp c_18
                  exfalso; omega
            · skip
              have tc_16 : ¬ 57 < z_10.toInt := fun h => c_16 ((fa_lt _ _).mpr h)
              refine lv_iconst (v := 2) hx hb dX4_kindAt_56 (by decide) ?_
              exact ret_i hx hb hr hlocks ⟨rfl, _, rfl, trivial⟩ (fun _ h => absurd h List.not_mem_nil) (Nat.le_refl _) (Nat.le_refl _) dX4_kindAt_57
        · skip
          have tc_11 : ¬ z_10.toInt < 97 := fun h => c_11 ((fa_lt _ _).mpr h)
          refine lv_iload_n hx hb dX4_kindAt_36 rfl (lv_at hl 0 rfl) ?_
          refine lv_bipush (v := 122) hx hb dX4_kindAt_37 (by decide) ?_
          refine lv_icmp_gt (tgt := 44) hx hb dX4_kindAt_39 (by decide) (fun c_20 => ?_) (fun c_20 => ?_)
          · skip
            have tc_20 : 122 < z_10.toInt := (fa_lt _ _).mp c_20
            have mc_20 : z_10.toInt ≤ 2147483647 := max_t z_10
            refine lv_iload_n hx hb dX4_kindAt_44 rfl (lv_at hl 0 rfl) ?_
            refine lv_bipush (v := 48) hx hb dX4_kindAt_45 (by decide) ?_
            refine lv_icmp_lt (tgt := 58) hx hb dX4_kindAt_47 (by decide) (fun c_21 => ?_) (fun c_21 => ?_)
            · skip
              have tc_21 : z_10.toInt < 48 := (fa_lt _ _).mp c_21
              exfalso; omega
            · skip
              have tc_21 : ¬ z_10.toInt < 48 := fun h => c_21 ((fa_lt _ _).mpr h)
              refine lv_iload_n hx hb dX4_kindAt_50 rfl (lv_at hl 0 rfl) ?_
              refine lv_bipush (v := 57) hx hb dX4_kindAt_51 (by decide) ?_
              refine lv_icmp_gt (tgt := 58) hx hb dX4_kindAt_53 (by decide) (fun c_22 => ?_) (fun c_22 => ?_)
              · skip
                have tc_22 : 57 < z_10.toInt := (fa_lt _ _).mp c_22
                refine lv_iload_n hx hb dX4_kindAt_58 rfl (lv_at hl 0 rfl) ?_
                refine lv_bipush (v := 32) hx hb dX4_kindAt_59 (by decide) ?_
                refine lv_icmp_eq (tgt := 70) hx hb dX4_kindAt_61 (by decide) (fun c_23 => ?_) (fun c_23 => ?_)
                · skip
                  have tc_23 : z_10.toInt = 32 := (fa_eq _ _).mp c_23
                  exfalso; omega
                · skip
                  have tc_23 : ¬ z_10.toInt = 32 := fun h => c_23 ((fa_eq _ _).mpr h)
                  refine lv_iload_n hx hb dX4_kindAt_64 rfl (lv_at hl 0 rfl) ?_
                  refine lv_bipush (v := 10) hx hb dX4_kindAt_65 (by decide) ?_
                  refine lv_icmp_ne (tgt := 72) hx hb dX4_kindAt_67 (by decide) (fun c_24 => ?_) (fun c_24 => ?_)
                  · skip
                    have tc_24 : ¬ z_10.toInt = 10 := fun h => c_24 ((fa_eq _ _).mpr h)
                    refine lv_iload_n hx hb dX4_kindAt_72 rfl (lv_at hl 0 rfl) ?_
                    refine lv_bipush (v := 59) hx hb dX4_kindAt_73 (by decide) ?_
                    refine lv_icmp_ne (tgt := 82) hx hb dX4_kindAt_75 (by decide) (fun c_25 => ?_) (fun c_25 => ?_)
                    · skip
                      have tc_25 : ¬ z_10.toInt = 59 := fun h => c_25 ((fa_eq _ _).mpr h)
                      refine lv_iconst (v := 5) hx hb dX4_kindAt_82 (by decide) ?_
                      exact ret_i hx hb hr hlocks ⟨rfl, _, rfl, trivial⟩ (fun _ h => absurd h List.not_mem_nil) (Nat.le_refl _) (Nat.le_refl _) dX4_kindAt_83
                    · skip
                      have tc_25 : z_10.toInt = 59 := (fa_eq _ _).mp c_25
                      exfalso; omega
                  · skip
                    have tc_24 : z_10.toInt = 10 := (fa_eq _ _).mp c_24
                    exfalso; omega
              · skip
                have tc_22 : ¬ 57 < z_10.toInt := fun h => c_22 ((fa_lt _ _).mpr h)
                exfalso; omega
          · skip
            have tc_20 : ¬ 122 < z_10.toInt := fun h => c_20 ((fa_lt _ _).mpr h)
            refine lv_iconst (v := 1) hx hb dX4_kindAt_42 (by decide) ?_
            exact ret_i hx hb hr hlocks ⟨rfl, _, rfl, trivial⟩ (fun _ h => absurd h List.not_mem_nil) (Nat.le_refl _) (Nat.le_refl _) dX4_kindAt_43
      · skip
        have tc_7 : ¬ v.toInt < z_6.toInt := fun h => c_7 ((fa_lt _ _).mpr h)
        refine lv_iconst (v := 0) hx hb dX4_kindAt_21 (by decide) ?_
        exact ret_i hx hb hr hlocks ⟨rfl, _, rfl, trivial⟩ (fun _ h => absurd h List.not_mem_nil) (Nat.le_refl _) (Nat.le_refl _) dX4_kindAt_22
set_option maxHeartbeats 4000000 in
set_option maxRecDepth 100000 in
theorem t_X4_refuse (l : Launch) (D : va_G) (cy : Nat → ClassId) (base : Nat) (τ : Nat → Nat) (G : Gh) (a : Nat) (h_a : τ a = 2) (v : Int32) (r_v : 1 ≤ v.toInt ∧ v.toInt ≤ 3) (f0 : Int32) (e_f0 : f0 = G.1 a 0) : MM l yX4_refuse cX4_refuse 2 none 0 0 0 D cy [.ref a, .int v] (PT D cy base τ G) (QT D cy base τ G [2] (fun v g => v = none ∧ (((g.1 a 0).toInt ≠ 0)))) (RA base) := by
  refine MM.of (by decide) (Nat.le_of_ble_eq_true rfl) ?_
  intro p e s m below meth c C hPT ls hl
  obtain ⟨hx, hb, hr, hml, hown, hts, hlocks, hK, hnm⟩ := C
  obtain ⟨hZ, hT⟩ := hPT
  have hS : va_S (RA base) s.heap s.heap [] := va_S.rf
  have hF : Fr τ [2] G G := Fr.rf
  have hl : lv_has ls 2 [(0, .ref a), (1, .int v)] := hl
  refine lv_aload_n hx hb dX4_refuse_0 rfl (lv_at hl 0 rfl) ?_
  refine t_geti cf_2 hx hb hts hown hK hT h_a (k := 0) rfl fl_X4_36 (fun _ h9 => h9) dX4_refuse_1 (fun z_1 ez_1 rz_1 => ?_)
  have w_2 : f0 = z_1 := e_f0.trans ez_1.symm
  subst w_2
  refine lv_if_ne (tgt := 20) hx hb dX4_refuse_4 (by decide) (fun c_3 => ?_) (fun c_3 => ?_)
  · skip
    have tc_3 : ¬ f0.toInt = 0 := fun h => c_3 ((fa_eq _ _).mpr h)
    exact ret_v hx hb hr hlocks ⟨⟨hS.1, hS.2.1⟩, G, hF, ⟨rfl, (by first | (show (G.1 a 0).toInt ≠ 0; rw [← e_f0]; done) | (show (G.1 a 0).toInt ≠ 0; rw [← e_f0]; show f0.toInt ≠ 0; first | omega | assumption))⟩, hT⟩ hS.2.2 (Nat.le_of_ble_eq_true rfl) (Nat.le_of_ble_eq_true rfl) dX4_refuse_20
  · skip
    have tc_3 : f0.toInt = 0 := (fa_eq _ _).mp c_3
    refine lv_aload_n hx hb dX4_refuse_7 rfl (lv_at hl 0 rfl) ?_
    refine lv_iload_n hx hb dX4_refuse_8 rfl (lv_at hl 1 rfl) ?_
    refine t_puti (x := v) cf_2 hx hb hts hown hK hT hS h_a (k := 0) rfl trivial fl_X4_36 (fun _ h9 => h9) rfl rfl rfl dX4_refuse_9 (fun H locs G_4 eG_4 hT hS => ?_)
    have hF := hF.wI eG_4 h_a rfl
    have k_6 : v = G_4.1 a 0 := by rw [eG_4, wI_at]
    refine lv_aload_n hx hb dX4_refuse_12 rfl (lv_at hl 0 rfl) ?_
    refine lv_aload_n hx hb dX4_refuse_13 rfl (lv_at hl 0 rfl) ?_
    refine t_geti cf_2 hx hb hts hown hK hT h_a (k := 5) rfl fl_X4_210 (fun _ h9 => h9) dX4_refuse_14 (fun z_7 ez_7 rz_7 => ?_)
    have ez_7 : z_7 = G_4.1 a 5 := ez_7
    refine t_puti (x := z_7) cf_2 hx hb hts hown hK hT hS h_a (k := 1) rfl trivial fl_X4_9 (fun _ h9 => h9) rfl rfl rfl dX4_refuse_17 (fun H locs G_8 eG_8 hT hS => ?_)
    have hF := hF.wI eG_8 h_a rfl
    have k_9 : v = G_8.1 a 0 := by rw [eG_8, wI_ne (Or.inr (by decide))]; exact k_6
    have k_10 : z_7 = G_8.1 a 5 := by rw [eG_8, wI_ne (Or.inr (by decide))]; exact ez_7
    exact ret_v hx hb hr hlocks ⟨⟨hS.1, hS.2.1⟩, G_8, hF, ⟨rfl, (by first | (show (G_8.1 a 0).toInt ≠ 0; rw [← k_9]; done) | (show (G_8.1 a 0).toInt ≠ 0; rw [← k_9]; show v.toInt ≠ 0; first | omega | assumption))⟩, hT⟩ hS.2.2 (Nat.le_of_ble_eq_true rfl) (Nat.le_of_ble_eq_true rfl) dX4_refuse_20
set_option maxHeartbeats 4000000 in
set_option maxRecDepth 100000 in
theorem t_X4_step (l : Launch) (D : va_G) (cy : Nat → ClassId) (base : Nat) (τ : Nat → Nat) (G : Gh) (a : Nat) (h_a : τ a = 2) (f0 : Int32) (e_f0 : f0 = G.1 a 0) (ln : Int32) (e_ln : ln = G.1 a 3) : MM l yX4_step cX4_step 2 none 1 0 0 D cy [.ref a] (PT D cy base τ G) (QT D cy base τ G [2] (fun v g => v = none ∧ (g.1 a 0 = G.1 a 0))) (RA base) := by
  refine MM.of (by decide) (Nat.le_of_ble_eq_true rfl) ?_
  intro p e s m below meth c C hPT ls hl
  obtain ⟨hx, hb, hr, hml, hown, hts, hlocks, hK, hnm⟩ := C
  obtain ⟨hZ, hT⟩ := hPT
  have hS : va_S (RA base) s.heap s.heap [] := va_S.rf
  have hF : Fr τ [2] G G := Fr.rf
  have hl : lv_has ls 2 [(0, .ref a)] := hl
  refine lv_aload_n hx hb dX4_step_0 rfl (lv_at hl 0 rfl) ?_
  refine t_geti cf_2 hx hb hts hown hK hT h_a (k := 0) rfl fl_X4_36 (fun _ h9 => h9) dX4_step_1 (fun z_1 ez_1 rz_1 => ?_)
  have w_2 : f0 = z_1 := e_f0.trans ez_1.symm
  subst w_2
  refine lv_if_eq (tgt := 8) hx hb dX4_step_4 (by decide) (fun c_3 => ?_) (fun c_3 => ?_)
  · skip
    have tc_3 : f0.toInt = 0 := (fa_eq _ _).mp c_3
    refine lv_aload_n hx hb dX4_step_8 rfl (lv_at hl 0 rfl) ?_
    refine lv_aload_n hx hb dX4_step_9 rfl (lv_at hl 0 rfl) ?_
    refine t_geti cf_2 hx hb hts hown hK hT h_a (k := 6) rfl fl_X4_92 (fun _ h9 => h9) dX4_step_10 (fun z_4 ez_4 rz_4 => ?_)
    have ez_4 : z_4 = G.1 a 6 := ez_4
    refine t_puti (x := z_4) cf_2 hx hb hts hown hK hT hS h_a (k := 5) rfl trivial fl_X4_210 (fun _ h9 => h9) rfl rfl rfl dX4_step_13 (fun H locs G_5 eG_5 hT hS => ?_)
    have hF := hF.wI eG_5 h_a rfl
    have k_6 : f0 = G_5.1 a 0 := by rw [eG_5, wI_ne (Or.inr (by decide))]; exact e_f0
    have k_7 : ln = G_5.1 a 3 := by rw [eG_5, wI_ne (Or.inr (by decide))]; exact e_ln
    have k_8 : z_4 = G_5.1 a 6 := by rw [eG_5, wI_ne (Or.inr (by decide))]; exact ez_4
    have k_9 : z_4 = G_5.1 a 5 := by rw [eG_5, wI_at]
    refine W.loop (σ := Int32 × Gh) (fun w10 H locs ls => -2147483648 ≤ w10.1.toInt ∧ w10.1.toInt ≤ 2147483647 ∧ f0 = w10.2.1 a 0 ∧ ln = w10.2.1 a 3 ∧ w10.1 = w10.2.1 a 5 ∧ Fr τ [2] G w10.2 ∧ TY D cy base τ w10.2 H ∧ va_S (RA base) s.heap H locs ∧ lv_has ls 2 [(0, .ref a)]) (fun w10 => (ln.toInt - w10.1.toInt).toNat) ?_ (z_4, G_5) _ _ _ ⟨(min_t z_4), (max_t z_4), (by show f0 = G_5.1 a 0; exact k_6), (by show ln = G_5.1 a 3; exact k_7), k_9, hF, hT, hS, lv_sub hl [0] rfl⟩
    intro w10 H locs ls hI ih10
    obtain ⟨x10_st, G_10⟩ := w10
    obtain ⟨i10_0, i10_1, i10_2, i10_3, i10_4, hF, hT, hS, hl⟩ := hI
    have i10_0 : -2147483648 ≤ x10_st.toInt := i10_0
    have i10_1 : x10_st.toInt ≤ 2147483647 := i10_1
    have i10_2 : f0 = G_10.1 a 0 := i10_2
    have i10_3 : ln = G_10.1 a 3 := i10_3
    have i10_4 : x10_st = G_10.1 a 5 := i10_4
    have hF : Fr τ [2] G G_10 := hF
    have hT : TY D cy base τ G_10 H := hT
    have hS : va_S (RA base) s.heap H locs := hS
    have hl : lv_has ls 2 [(0, .ref a)] := hl
    refine lv_aload_n hx hb dX4_step_16 rfl (lv_at hl 0 rfl) ?_
    refine t_geti cf_2 hx hb hts hown hK hT h_a (k := 5) rfl fl_X4_210 (fun _ h9 => h9) dX4_step_17 (fun z_11 ez_11 rz_11 => ?_)
    have w_12 : x10_st = z_11 := i10_4.trans ez_11.symm
    subst w_12
    refine lv_aload_n hx hb dX4_step_20 rfl (lv_at hl 0 rfl) ?_
    refine t_geti cf_2 hx hb hts hown hK hT h_a (k := 3) rfl fl_X4_30 (fun _ h9 => h9) dX4_step_21 (fun z_13 ez_13 rz_13 => ?_)
    have w_14 : ln = z_13 := i10_3.trans ez_13.symm
    subst w_14
    refine lv_icmp_ge (tgt := 52) hx hb dX4_step_24 (by decide) (fun c_15 => ?_) (fun c_15 => ?_)
    · skip
      have tc_15 : ln.toInt ≤ x10_st.toInt := (fa_le _ _).mp c_15
      refine lv_aload_n hx hb dX4_step_52 rfl (lv_at hl 0 rfl) ?_
      refine lv_aload_n hx hb dX4_step_53 rfl (lv_at hl 0 rfl) ?_
      refine lv_aload_n hx hb dX4_step_54 rfl (lv_at hl 0 rfl) ?_
      refine t_geti cf_2 hx hb hts hown hK hT h_a (k := 5) rfl fl_X4_210 (fun _ h9 => h9) dX4_step_55 (fun z_16 ez_16 rz_16 => ?_)
      have w_17 : x10_st = z_16 := i10_4.trans ez_16.symm
      subst w_17
      refine pu_calli (runV (As := [.int x10_st]) (rest := [.ref a]) ⟨hx, hb, hml, hown, hts⟩ (t_X4_kindAt l D cy base τ G_10 a h_a x10_st) sV_X4_226 hK (t_recv cf_2 hK hT h_a) ⟨Nat.le_trans hZ hS.1, hT⟩ ⟨Nat.le_of_ble_eq_true rfl, Nat.le_of_ble_eq_true rfl⟩ rfl hl.1 rfl (Nat.le_of_ble_eq_true rfl) dX4_step_58 ⟨Nat.le_of_ble_eq_true rfl, Nat.le_of_ble_eq_true rfl⟩) (fun r_18 hr_18 => ?_)
      refine t_puti (x := r_18) cf_2 hx hb hts hown hK hT hS h_a (k := 4) rfl trivial fl_X4_33 (fun _ h9 => h9) rfl rfl rfl dX4_step_61 (fun H locs G_19 eG_19 hT hS => ?_)
      have hF := hF.wI eG_19 h_a rfl
      have k_20 : f0 = G_19.1 a 0 := by rw [eG_19, wI_ne (Or.inr (by decide))]; exact i10_2
      have k_21 : ln = G_19.1 a 3 := by rw [eG_19, wI_ne (Or.inr (by decide))]; exact i10_3
      have k_22 : x10_st = G_19.1 a 5 := by rw [eG_19, wI_ne (Or.inr (by decide))]; exact i10_4
      refine lv_aload_n hx hb dX4_step_64 rfl (lv_at hl 0 rfl) ?_
      refine lv_iconst (v := 0) hx hb dX4_step_65 (by decide) ?_
      refine t_puti (x := 0) cf_2 hx hb hts hown hK hT hS h_a (k := 7) rfl trivial fl_X4_197 (fun _ h9 => h9) rfl rfl rfl dX4_step_66 (fun H locs G_23 eG_23 hT hS => ?_)
      have hF := hF.wI eG_23 h_a rfl
      have k_24 : f0 = G_23.1 a 0 := by rw [eG_23, wI_ne (Or.inr (by decide))]; exact k_20
      have k_25 : ln = G_23.1 a 3 := by rw [eG_23, wI_ne (Or.inr (by decide))]; exact k_21
      have k_26 : x10_st = G_23.1 a 5 := by rw [eG_23, wI_ne (Or.inr (by decide))]; exact k_22
      have k_27 : (0 : Int32) = G_23.1 a 7 := by rw [eG_23, wI_at]
      refine lv_aload_n hx hb dX4_step_69 rfl (lv_at hl 0 rfl) ?_
      refine lv_aload_n hx hb dX4_step_70 rfl (lv_at hl 0 rfl) ?_
      refine t_geti cf_2 hx hb hts hown hK hT h_a (k := 5) rfl fl_X4_210 (fun _ h9 => h9) dX4_step_71 (fun z_28 ez_28 rz_28 => ?_)
      have w_29 : x10_st = z_28 := k_26.trans ez_28.symm
      subst w_29
      refine t_puti (x := x10_st) cf_2 hx hb hts hown hK hT hS h_a (k := 6) rfl trivial fl_X4_92 (fun _ h9 => h9) rfl rfl rfl dX4_step_74 (fun H locs G_30 eG_30 hT hS => ?_)
      have hF := hF.wI eG_30 h_a rfl
      have k_31 : f0 = G_30.1 a 0 := by rw [eG_30, wI_ne (Or.inr (by decide))]; exact k_24
      have k_32 : ln = G_30.1 a 3 := by rw [eG_30, wI_ne (Or.inr (by decide))]; exact k_25
      have k_33 : x10_st = G_30.1 a 5 := by rw [eG_30, wI_ne (Or.inr (by decide))]; exact k_26
      have k_34 : 0 = G_30.1 a 7 := by rw [eG_30, wI_ne (Or.inr (by decide))]; exact k_27
      have k_35 : x10_st = G_30.1 a 6 := by rw [eG_30, wI_at]
      refine lv_aload_n hx hb dX4_step_77 rfl (lv_at hl 0 rfl) ?_
      refine t_geti cf_2 hx hb hts hown hK hT h_a (k := 4) rfl fl_X4_33 (fun _ h9 => h9) dX4_step_78 (fun z_36 ez_36 rz_36 => ?_)
      have ez_36 : z_36 = G_30.1 a 4 := ez_36
      refine lv_if_eq (tgt := 88) hx hb dX4_step_81 (by decide) (fun c_37 => ?_) (fun c_37 => ?_)
      · skip
        have tc_37 : z_36.toInt = 0 := (fa_eq _ _).mp c_37
        refine lv_iconst (v := 0) hx hb dX4_step_88 (by decide) ?_
        refine lv_istore_n (lv' := [(1, .int 0), (0, .ref a)]) hx hb dX4_step_89 rfl hl (by decide) rfl (fun ls hl => ?_)
        refine W.loop (σ := Int32 × Int32 × Gh) (fun w38 H locs ls => -2147483648 ≤ w38.2.1.toInt ∧ w38.2.1.toInt ≤ 2147483647 ∧ f0 = w38.2.2.1 a 0 ∧ ln = w38.2.2.1 a 3 ∧ w38.2.1 = w38.2.2.1 a 6 ∧ Fr τ [2] G w38.2.2 ∧ TY D cy base τ w38.2.2 H ∧ va_S (RA base) s.heap H locs ∧ lv_has ls 2 [(1, .int w38.1), (0, .ref a)]) (fun w38 => (ln.toInt - w38.2.1.toInt).toNat) ?_ ((0 : Int32), x10_st, G_30) _ _ _ ⟨(min_t x10_st), (max_t x10_st), (by show f0 = G_30.1 a 0; exact k_31), (by show ln = G_30.1 a 3; exact k_32), k_35, hF, hT, hS, lv_sub hl [0, 1] rfl⟩
        intro w38 H locs ls hI ih38
        obtain ⟨x38_1, x38_sp, G_38⟩ := w38
        obtain ⟨i38_0, i38_1, i38_2, i38_3, i38_4, hF, hT, hS, hl⟩ := hI
        have i38_0 : -2147483648 ≤ x38_sp.toInt := i38_0
        have i38_1 : x38_sp.toInt ≤ 2147483647 := i38_1
        have i38_2 : f0 = G_38.1 a 0 := i38_2
        have i38_3 : ln = G_38.1 a 3 := i38_3
        have i38_4 : x38_sp = G_38.1 a 6 := i38_4
        have hF : Fr τ [2] G G_38 := hF
        have hT : TY D cy base τ G_38 H := hT
        have hS : va_S (RA base) s.heap H locs := hS
        have hl : lv_has ls 2 [(1, .int x38_1), (0, .ref a)] := hl
        refine lv_iload_n hx hb dX4_step_90 rfl (lv_at hl 0 rfl) ?_
        refine lv_if_eq (tgt := 191) hx hb dX4_step_91 (by decide) (fun c_39 => ?_) (fun c_39 => ?_)
        · skip
          have tc_39 : x38_1.toInt = 0 := (fa_eq _ _).mp c_39
          exact ret_v hx hb hr hlocks ⟨⟨hS.1, hS.2.1⟩, G_38, hF, ⟨rfl, (i38_2.symm.trans e_f0)⟩, hT⟩ hS.2.2 (Nat.le_of_ble_eq_true rfl) (Nat.le_of_ble_eq_true rfl) dX4_step_191
        · skip
          have tc_39 : ¬ x38_1.toInt = 0 := fun h => c_39 ((fa_eq _ _).mpr h)
          refine lv_aload_n hx hb dX4_step_94 rfl (lv_at hl 1 rfl) ?_
          refine t_geti cf_2 hx hb hts hown hK hT h_a (k := 6) rfl fl_X4_92 (fun _ h9 => h9) dX4_step_95 (fun z_40 ez_40 rz_40 => ?_)
          have w_41 : x38_sp = z_40 := i38_4.trans ez_40.symm
          subst w_41
          refine lv_aload_n hx hb dX4_step_98 rfl (lv_at hl 1 rfl) ?_
          refine t_geti cf_2 hx hb hts hown hK hT h_a (k := 3) rfl fl_X4_30 (fun _ h9 => h9) dX4_step_99 (fun z_42 ez_42 rz_42 => ?_)
          have w_43 : ln = z_42 := i38_3.trans ez_42.symm
          subst w_43
          refine lv_icmp_ge (tgt := 191) hx hb dX4_step_102 (by decide) (fun c_44 => ?_) (fun c_44 => ?_)
          · skip
            have tc_44 : ln.toInt ≤ x38_sp.toInt := (fa_le _ _).mp c_44
            exact ret_v hx hb hr hlocks ⟨⟨hS.1, hS.2.1⟩, G_38, hF, ⟨rfl, (i38_2.symm.trans e_f0)⟩, hT⟩ hS.2.2 (Nat.le_of_ble_eq_true rfl) (Nat.le_of_ble_eq_true rfl) dX4_step_191
          · skip
            have tc_44 : ¬ ln.toInt ≤ x38_sp.toInt := fun h => c_44 ((fa_le _ _).mpr h)
            refine lv_aload_n hx hb dX4_step_105 rfl (lv_at hl 1 rfl) ?_
            refine t_geti cf_2 hx hb hts hown hK hT h_a (k := 4) rfl fl_X4_33 (fun _ h9 => h9) dX4_step_106 (fun z_45 ez_45 rz_45 => ?_)
            have ez_45 : z_45 = G_38.1 a 4 := ez_45
            refine lv_iconst (v := 2) hx hb dX4_step_109 (by decide) ?_
            refine lv_icmp_ne (tgt := 141) hx hb dX4_step_110 (by decide) (fun c_46 => ?_) (fun c_46 => ?_)
            · skip
              have tc_46 : ¬ z_45.toInt = 2 := fun h => c_46 ((fa_eq _ _).mpr h)
              refine lv_aload_n hx hb dX4_step_141 rfl (lv_at hl 1 rfl) ?_
              refine lv_dup hx hb dX4_step_142 rfl ?_
              refine t_geti cf_2 hx hb hts hown hK hT h_a (k := 6) rfl fl_X4_92 (fun _ h9 => h9) dX4_step_143 (fun z_47 ez_47 rz_47 => ?_)
              have w_48 : x38_sp = z_47 := i38_4.trans ez_47.symm
              subst w_48
              refine lv_iconst (v := 1) hx hb dX4_step_146 (by decide) ?_
              refine lv_iadd hx hb dX4_step_147 ?_
              refine lv_topi (fun z_49 ez_49 => ?_)
              have tz_49 : z_49.toInt = x38_sp.toInt + 1 := add_t ez_49 (show -2147483648 ≤ x38_sp.toInt + 1 by omega) (show x38_sp.toInt + 1 < 2147483648 by omega)
              refine t_puti (x := z_49) cf_2 hx hb hts hown hK hT hS h_a (k := 6) rfl trivial fl_X4_92 (fun _ h9 => h9) rfl rfl rfl dX4_step_148 (fun H locs G_50 eG_50 hT hS => ?_)
              have hF := hF.wI eG_50 h_a rfl
              have k_51 : f0 = G_50.1 a 0 := by rw [eG_50, wI_ne (Or.inr (by decide))]; exact i38_2
              have k_52 : ln = G_50.1 a 3 := by rw [eG_50, wI_ne (Or.inr (by decide))]; exact i38_3
              have k_54 : z_49 = G_50.1 a 6 := by rw [eG_50, wI_at]
              refine lv_aload_n hx hb dX4_step_151 rfl (lv_at hl 1 rfl) ?_
              refine t_geti cf_2 hx hb hts hown hK hT h_a (k := 4) rfl fl_X4_33 (fun _ h9 => h9) dX4_step_152 (fun z_55 ez_55 rz_55 => ?_)
              have ez_55 : z_55 = G_50.1 a 4 := ez_55
              refine lv_iconst (v := 1) hx hb dX4_step_155 (by decide) ?_
              refine lv_icmp_eq (tgt := 167) hx hb dX4_step_156 (by decide) (fun c_56 => ?_) (fun c_56 => ?_)
              · skip
                have tc_56 : z_55.toInt = 1 := (fa_eq _ _).mp c_56
                refine lv_aload_n hx hb dX4_step_167 rfl (lv_at hl 1 rfl) ?_
                refine lv_aload_n hx hb dX4_step_168 rfl (lv_at hl 1 rfl) ?_
                refine t_geti cf_2 hx hb hts hown hK hT h_a (k := 6) rfl fl_X4_92 (fun _ h9 => h9) dX4_step_169 (fun z_57 ez_57 rz_57 => ?_)
                have w_58 : z_49 = z_57 := k_54.trans ez_57.symm
                subst w_58
                refine pu_calli (runV (As := [.int z_49]) (rest := []) ⟨hx, hb, hml, hown, hts⟩ (t_X4_kindAt l D cy base τ G_50 a h_a z_49) sV_X4_226 hK (t_recv cf_2 hK hT h_a) ⟨Nat.le_trans hZ hS.1, hT⟩ ⟨Nat.le_of_ble_eq_true rfl, Nat.le_of_ble_eq_true rfl⟩ rfl hl.1 rfl (Nat.le_of_ble_eq_true rfl) dX4_step_172 ⟨Nat.le_of_ble_eq_true rfl, Nat.le_of_ble_eq_true rfl⟩) (fun r_59 hr_59 => ?_)
                refine lv_aload_n hx hb dX4_step_175 rfl (lv_at hl 1 rfl) ?_
                refine t_geti cf_2 hx hb hts hown hK hT h_a (k := 4) rfl fl_X4_33 (fun _ h9 => h9) dX4_step_176 (fun z_60 ez_60 rz_60 => ?_)
                have w_61 : z_55 = z_60 := ez_55.trans ez_60.symm
                subst w_61
                refine lv_icmp_ne (tgt := 186) hx hb dX4_step_179 (by decide) (fun c_62 => ?_) (fun c_62 => ?_)
                · skip
                  have tc_62 : ¬ r_59.toInt = z_55.toInt := fun h => c_62 ((fa_eq _ _).mpr h)
                  refine lv_iconst (v := 0) hx hb dX4_step_186 (by decide) ?_
                  refine lv_istore_n (lv' := [(1, .int 0), (0, .ref a)]) hx hb dX4_step_187 rfl hl (by decide) rfl (fun ls hl => ?_)
                  refine lv_goto (tgt := 90) hx hb dX4_step_188 (by decide) ?_
                  exact ih38 ((0 : Int32), z_49, G_50) _ _ _ (by show (ln.toInt - z_49.toInt).toNat < (ln.toInt - x38_sp.toInt).toNat; omega) ⟨(min_t z_49), (max_t z_49), (show f0 = G_50.1 a 0 from by first | exact k_51 | omega), (show ln = G_50.1 a 3 from by first | exact k_52 | omega), k_54, hF, hT, hS, lv_sub hl [0, 1] rfl⟩
                · skip
                  have tc_62 : r_59.toInt = z_55.toInt := (fa_eq _ _).mp c_62
                  refine lv_iconst (v := 1) hx hb dX4_step_182 (by decide) ?_
                  refine lv_goto (tgt := 187) hx hb dX4_step_183 (by decide) ?_
                  refine lv_istore_n (lv' := [(1, .int 1), (0, .ref a)]) hx hb dX4_step_187 rfl hl (by decide) rfl (fun ls hl => ?_)
                  refine lv_goto (tgt := 90) hx hb dX4_step_188 (by decide) ?_
                  exact ih38 ((1 : Int32), z_49, G_50) _ _ _ (by show (ln.toInt - z_49.toInt).toNat < (ln.toInt - x38_sp.toInt).toNat; omega) ⟨(min_t z_49), (max_t z_49), (show f0 = G_50.1 a 0 from by first | exact k_51 | omega), (show ln = G_50.1 a 3 from by first | exact k_52 | omega), k_54, hF, hT, hS, lv_sub hl [0, 1] rfl⟩
              · skip
                have tc_56 : ¬ z_55.toInt = 1 := fun h => c_56 ((fa_eq _ _).mpr h)
                refine lv_aload_n hx hb dX4_step_159 rfl (lv_at hl 1 rfl) ?_
                refine t_geti cf_2 hx hb hts hown hK hT h_a (k := 4) rfl fl_X4_33 (fun _ h9 => h9) dX4_step_160 (fun z_63 ez_63 rz_63 => ?_)
                have w_64 : z_55 = z_63 := ez_55.trans ez_63.symm
                subst w_64
                refine lv_iconst (v := 2) hx hb dX4_step_163 (by decide) ?_
                refine lv_icmp_ne (tgt := 186) hx hb dX4_step_164 (by decide) (fun c_65 => ?_) (fun c_65 => ?_)
                · skip
                  have tc_65 : ¬ z_55.toInt = 2 := fun h => c_65 ((fa_eq _ _).mpr h)
                  refine lv_iconst (v := 0) hx hb dX4_step_186 (by decide) ?_
                  refine lv_istore_n (lv' := [(1, .int 0), (0, .ref a)]) hx hb dX4_step_187 rfl hl (by decide) rfl (fun ls hl => ?_)
                  refine lv_goto (tgt := 90) hx hb dX4_step_188 (by decide) ?_
                  exact ih38 ((0 : Int32), z_49, G_50) _ _ _ (by show (ln.toInt - z_49.toInt).toNat < (ln.toInt - x38_sp.toInt).toNat; omega) ⟨(min_t z_49), (max_t z_49), (show f0 = G_50.1 a 0 from by first | exact k_51 | omega), (show ln = G_50.1 a 3 from by first | exact k_52 | omega), k_54, hF, hT, hS, lv_sub hl [0, 1] rfl⟩
                · skip
                  have tc_65 : z_55.toInt = 2 := (fa_eq _ _).mp c_65
                  refine lv_aload_n hx hb dX4_step_167 rfl (lv_at hl 1 rfl) ?_
                  refine lv_aload_n hx hb dX4_step_168 rfl (lv_at hl 1 rfl) ?_
                  refine t_geti cf_2 hx hb hts hown hK hT h_a (k := 6) rfl fl_X4_92 (fun _ h9 => h9) dX4_step_169 (fun z_66 ez_66 rz_66 => ?_)
                  have w_67 : z_49 = z_66 := k_54.trans ez_66.symm
                  subst w_67
                  refine pu_calli (runV (As := [.int z_49]) (rest := []) ⟨hx, hb, hml, hown, hts⟩ (t_X4_kindAt l D cy base τ G_50 a h_a z_49) sV_X4_226 hK (t_recv cf_2 hK hT h_a) ⟨Nat.le_trans hZ hS.1, hT⟩ ⟨Nat.le_of_ble_eq_true rfl, Nat.le_of_ble_eq_true rfl⟩ rfl hl.1 rfl (Nat.le_of_ble_eq_true rfl) dX4_step_172 ⟨Nat.le_of_ble_eq_true rfl, Nat.le_of_ble_eq_true rfl⟩) (fun r_68 hr_68 => ?_)
                  refine lv_aload_n hx hb dX4_step_175 rfl (lv_at hl 1 rfl) ?_
                  refine t_geti cf_2 hx hb hts hown hK hT h_a (k := 4) rfl fl_X4_33 (fun _ h9 => h9) dX4_step_176 (fun z_69 ez_69 rz_69 => ?_)
                  have w_70 : z_55 = z_69 := ez_55.trans ez_69.symm
                  subst w_70
                  refine lv_icmp_ne (tgt := 186) hx hb dX4_step_179 (by decide) (fun c_71 => ?_) (fun c_71 => ?_)
                  · skip
                    have tc_71 : ¬ r_68.toInt = z_55.toInt := fun h => c_71 ((fa_eq _ _).mpr h)
                    refine lv_iconst (v := 0) hx hb dX4_step_186 (by decide) ?_
                    refine lv_istore_n (lv' := [(1, .int 0), (0, .ref a)]) hx hb dX4_step_187 rfl hl (by decide) rfl (fun ls hl => ?_)
                    refine lv_goto (tgt := 90) hx hb dX4_step_188 (by decide) ?_
                    exact ih38 ((0 : Int32), z_49, G_50) _ _ _ (by show (ln.toInt - z_49.toInt).toNat < (ln.toInt - x38_sp.toInt).toNat; omega) ⟨(min_t z_49), (max_t z_49), (show f0 = G_50.1 a 0 from by first | exact k_51 | omega), (show ln = G_50.1 a 3 from by first | exact k_52 | omega), k_54, hF, hT, hS, lv_sub hl [0, 1] rfl⟩
                  · skip
                    have tc_71 : r_68.toInt = z_55.toInt := (fa_eq _ _).mp c_71
                    refine lv_iconst (v := 1) hx hb dX4_step_182 (by decide) ?_
                    refine lv_goto (tgt := 187) hx hb dX4_step_183 (by decide) ?_
                    refine lv_istore_n (lv' := [(1, .int 1), (0, .ref a)]) hx hb dX4_step_187 rfl hl (by decide) rfl (fun ls hl => ?_)
                    refine lv_goto (tgt := 90) hx hb dX4_step_188 (by decide) ?_
                    exact ih38 ((1 : Int32), z_49, G_50) _ _ _ (by show (ln.toInt - z_49.toInt).toNat < (ln.toInt - x38_sp.toInt).toNat; omega) ⟨(min_t z_49), (max_t z_49), (show f0 = G_50.1 a 0 from by first | exact k_51 | omega), (show ln = G_50.1 a 3 from by first | exact k_52 | omega), k_54, hF, hT, hS, lv_sub hl [0, 1] rfl⟩
            · skip
              have tc_46 : z_45.toInt = 2 := (fa_eq _ _).mp c_46
              refine lv_aload_n hx hb dX4_step_113 rfl (lv_at hl 1 rfl) ?_
              refine lv_ldc (v := 99999) hx hb hown (hts _ ki_X4_229) dX4_step_114 ?_
              refine lv_aload_n hx hb dX4_step_116 rfl (lv_at hl 1 rfl) ?_
              refine t_geti cf_2 hx hb hts hown hK hT h_a (k := 7) rfl fl_X4_197 (fun _ h9 => h9) dX4_step_117 (fun z_72 ez_72 rz_72 => ?_)
              have ez_72 : z_72 = G_38.1 a 7 := ez_72
              refine lv_bipush (v := 10) hx hb dX4_step_120 (by decide) ?_
              refine lv_imul hx hb dX4_step_122 ?_
              refine lv_topi (fun z_73 ez_73 => ?_)
              refine lv_aload_n hx hb dX4_step_123 rfl (lv_at hl 1 rfl) ?_
              refine lv_aload_n hx hb dX4_step_124 rfl (lv_at hl 1 rfl) ?_
              refine t_geti cf_2 hx hb hts hown hK hT h_a (k := 6) rfl fl_X4_92 (fun _ h9 => h9) dX4_step_125 (fun z_74 ez_74 rz_74 => ?_)
              have w_75 : x38_sp = z_74 := i38_4.trans ez_74.symm
              subst w_75
              refine pu_calli (runV (As := [.int x38_sp]) (rest := [.int z_73, .int 99999, .ref a]) ⟨hx, hb, hml, hown, hts⟩ (t_X4_signAt l D cy base τ G_38 a h_a x38_sp) sV_X4_218 hK (t_recv cf_2 hK hT h_a) ⟨Nat.le_trans hZ hS.1, hT⟩ ⟨Nat.le_of_ble_eq_true rfl, Nat.le_of_ble_eq_true rfl⟩ rfl hl.1 rfl (Nat.le_of_ble_eq_true rfl) dX4_step_128 ⟨Nat.le_of_ble_eq_true rfl, Nat.le_of_ble_eq_true rfl⟩) (fun r_76 hr_76 => ?_)
              refine lv_iadd hx hb dX4_step_131 ?_
              refine lv_topi (fun z_77 ez_77 => ?_)
              refine lv_bipush (v := 48) hx hb dX4_step_132 (by decide) ?_
              refine lv_isub hx hb dX4_step_134 ?_
              refine lv_topi (fun z_78 ez_78 => ?_)
              refine va_mmin hx hb (by rw [hml]; exact hl.1.symm) hown (hts _ ml_X4_86) (hts _ st_math_min) (hts _ ini_J9) (hts _ co_math_min) (Nat.le_of_ble_eq_true rfl) (Nat.le_of_ble_eq_true rfl) (Nat.le_of_ble_eq_true rfl) (Nat.le_of_ble_eq_true rfl) dX4_step_135 ?_
              refine lv_topi (fun z_79 ez_79 => ?_)
              have tz_79 : (99999 ≥ z_79.toInt ∧ z_78.toInt ≥ z_79.toInt ∧ (z_79.toInt = 99999 ∨ z_79.toInt = z_78.toInt)) := mmin_t ez_79
              refine t_puti (x := z_79) cf_2 hx hb hts hown hK hT hS h_a (k := 7) rfl trivial fl_X4_197 (fun _ h9 => h9) rfl rfl rfl dX4_step_138 (fun H locs G_80 eG_80 hT hS => ?_)
              have hF := hF.wI eG_80 h_a rfl
              have k_81 : f0 = G_80.1 a 0 := by rw [eG_80, wI_ne (Or.inr (by decide))]; exact i38_2
              have k_82 : ln = G_80.1 a 3 := by rw [eG_80, wI_ne (Or.inr (by decide))]; exact i38_3
              have k_83 : x38_sp = G_80.1 a 6 := by rw [eG_80, wI_ne (Or.inr (by decide))]; exact i38_4
              have k_85 : z_79 = G_80.1 a 7 := by rw [eG_80, wI_at]
              refine lv_aload_n hx hb dX4_step_141 rfl (lv_at hl 1 rfl) ?_
              refine lv_dup hx hb dX4_step_142 rfl ?_
              refine t_geti cf_2 hx hb hts hown hK hT h_a (k := 6) rfl fl_X4_92 (fun _ h9 => h9) dX4_step_143 (fun z_86 ez_86 rz_86 => ?_)
              have w_87 : x38_sp = z_86 := k_83.trans ez_86.symm
              subst w_87
              refine lv_iconst (v := 1) hx hb dX4_step_146 (by decide) ?_
              refine lv_iadd hx hb dX4_step_147 ?_
              refine lv_topi (fun z_88 ez_88 => ?_)
              have tz_88 : z_88.toInt = x38_sp.toInt + 1 := add_t ez_88 (show -2147483648 ≤ x38_sp.toInt + 1 by omega) (show x38_sp.toInt + 1 < 2147483648 by omega)
              refine t_puti (x := z_88) cf_2 hx hb hts hown hK hT hS h_a (k := 6) rfl trivial fl_X4_92 (fun _ h9 => h9) rfl rfl rfl dX4_step_148 (fun H locs G_89 eG_89 hT hS => ?_)
              have hF := hF.wI eG_89 h_a rfl
              have k_90 : f0 = G_89.1 a 0 := by rw [eG_89, wI_ne (Or.inr (by decide))]; exact k_81
              have k_91 : ln = G_89.1 a 3 := by rw [eG_89, wI_ne (Or.inr (by decide))]; exact k_82
              have k_93 : z_79 = G_89.1 a 7 := by rw [eG_89, wI_ne (Or.inr (by decide))]; exact k_85
              have k_94 : z_88 = G_89.1 a 6 := by rw [eG_89, wI_at]
              refine lv_aload_n hx hb dX4_step_151 rfl (lv_at hl 1 rfl) ?_
              refine t_geti cf_2 hx hb hts hown hK hT h_a (k := 4) rfl fl_X4_33 (fun _ h9 => h9) dX4_step_152 (fun z_95 ez_95 rz_95 => ?_)
              have ez_95 : z_95 = G_89.1 a 4 := ez_95
              refine lv_iconst (v := 1) hx hb dX4_step_155 (by decide) ?_
              refine lv_icmp_eq (tgt := 167) hx hb dX4_step_156 (by decide) (fun c_96 => ?_) (fun c_96 => ?_)
              · skip
                have tc_96 : z_95.toInt = 1 := (fa_eq _ _).mp c_96
                refine lv_aload_n hx hb dX4_step_167 rfl (lv_at hl 1 rfl) ?_
                refine lv_aload_n hx hb dX4_step_168 rfl (lv_at hl 1 rfl) ?_
                refine t_geti cf_2 hx hb hts hown hK hT h_a (k := 6) rfl fl_X4_92 (fun _ h9 => h9) dX4_step_169 (fun z_97 ez_97 rz_97 => ?_)
                have w_98 : z_88 = z_97 := k_94.trans ez_97.symm
                subst w_98
                refine pu_calli (runV (As := [.int z_88]) (rest := []) ⟨hx, hb, hml, hown, hts⟩ (t_X4_kindAt l D cy base τ G_89 a h_a z_88) sV_X4_226 hK (t_recv cf_2 hK hT h_a) ⟨Nat.le_trans hZ hS.1, hT⟩ ⟨Nat.le_of_ble_eq_true rfl, Nat.le_of_ble_eq_true rfl⟩ rfl hl.1 rfl (Nat.le_of_ble_eq_true rfl) dX4_step_172 ⟨Nat.le_of_ble_eq_true rfl, Nat.le_of_ble_eq_true rfl⟩) (fun r_99 hr_99 => ?_)
                refine lv_aload_n hx hb dX4_step_175 rfl (lv_at hl 1 rfl) ?_
                refine t_geti cf_2 hx hb hts hown hK hT h_a (k := 4) rfl fl_X4_33 (fun _ h9 => h9) dX4_step_176 (fun z_100 ez_100 rz_100 => ?_)
                have w_101 : z_95 = z_100 := ez_95.trans ez_100.symm
                subst w_101
                refine lv_icmp_ne (tgt := 186) hx hb dX4_step_179 (by decide) (fun c_102 => ?_) (fun c_102 => ?_)
                · skip
                  have tc_102 : ¬ r_99.toInt = z_95.toInt := fun h => c_102 ((fa_eq _ _).mpr h)
                  refine lv_iconst (v := 0) hx hb dX4_step_186 (by decide) ?_
                  refine lv_istore_n (lv' := [(1, .int 0), (0, .ref a)]) hx hb dX4_step_187 rfl hl (by decide) rfl (fun ls hl => ?_)
                  refine lv_goto (tgt := 90) hx hb dX4_step_188 (by decide) ?_
                  exact ih38 ((0 : Int32), z_88, G_89) _ _ _ (by show (ln.toInt - z_88.toInt).toNat < (ln.toInt - x38_sp.toInt).toNat; omega) ⟨(min_t z_88), (max_t z_88), (show f0 = G_89.1 a 0 from by first | exact k_90 | omega), (show ln = G_89.1 a 3 from by first | exact k_91 | omega), k_94, hF, hT, hS, lv_sub hl [0, 1] rfl⟩
                · skip
                  have tc_102 : r_99.toInt = z_95.toInt := (fa_eq _ _).mp c_102
                  refine lv_iconst (v := 1) hx hb dX4_step_182 (by decide) ?_
                  refine lv_goto (tgt := 187) hx hb dX4_step_183 (by decide) ?_
                  refine lv_istore_n (lv' := [(1, .int 1), (0, .ref a)]) hx hb dX4_step_187 rfl hl (by decide) rfl (fun ls hl => ?_)
                  refine lv_goto (tgt := 90) hx hb dX4_step_188 (by decide) ?_
                  exact ih38 ((1 : Int32), z_88, G_89) _ _ _ (by show (ln.toInt - z_88.toInt).toNat < (ln.toInt - x38_sp.toInt).toNat; omega) ⟨(min_t z_88), (max_t z_88), (show f0 = G_89.1 a 0 from by first | exact k_90 | omega), (show ln = G_89.1 a 3 from by first | exact k_91 | omega), k_94, hF, hT, hS, lv_sub hl [0, 1] rfl⟩
              · skip
                have tc_96 : ¬ z_95.toInt = 1 := fun h => c_96 ((fa_eq _ _).mpr h)
                refine lv_aload_n hx hb dX4_step_159 rfl (lv_at hl 1 rfl) ?_
                refine t_geti cf_2 hx hb hts hown hK hT h_a (k := 4) rfl fl_X4_33 (fun _ h9 => h9) dX4_step_160 (fun z_103 ez_103 rz_103 => ?_)
                have w_104 : z_95 = z_103 := ez_95.trans ez_103.symm
                subst w_104
                refine lv_iconst (v := 2) hx hb dX4_step_163 (by decide) ?_
                refine lv_icmp_ne (tgt := 186) hx hb dX4_step_164 (by decide) (fun c_105 => ?_) (fun c_105 => ?_)
                · skip
                  have tc_105 : ¬ z_95.toInt = 2 := fun h => c_105 ((fa_eq _ _).mpr h)
                  refine lv_iconst (v := 0) hx hb dX4_step_186 (by decide) ?_
                  refine lv_istore_n (lv' := [(1, .int 0), (0, .ref a)]) hx hb dX4_step_187 rfl hl (by decide) rfl (fun ls hl => ?_)
                  refine lv_goto (tgt := 90) hx hb dX4_step_188 (by decide) ?_
                  exact ih38 ((0 : Int32), z_88, G_89) _ _ _ (by show (ln.toInt - z_88.toInt).toNat < (ln.toInt - x38_sp.toInt).toNat; omega) ⟨(min_t z_88), (max_t z_88), (show f0 = G_89.1 a 0 from by first | exact k_90 | omega), (show ln = G_89.1 a 3 from by first | exact k_91 | omega), k_94, hF, hT, hS, lv_sub hl [0, 1] rfl⟩
                · skip
                  have tc_105 : z_95.toInt = 2 := (fa_eq _ _).mp c_105
                  refine lv_aload_n hx hb dX4_step_167 rfl (lv_at hl 1 rfl) ?_
                  refine lv_aload_n hx hb dX4_step_168 rfl (lv_at hl 1 rfl) ?_
                  refine t_geti cf_2 hx hb hts hown hK hT h_a (k := 6) rfl fl_X4_92 (fun _ h9 => h9) dX4_step_169 (fun z_106 ez_106 rz_106 => ?_)
                  have w_107 : z_88 = z_106 := k_94.trans ez_106.symm
                  subst w_107
                  refine pu_calli (runV (As := [.int z_88]) (rest := []) ⟨hx, hb, hml, hown, hts⟩ (t_X4_kindAt l D cy base τ G_89 a h_a z_88) sV_X4_226 hK (t_recv cf_2 hK hT h_a) ⟨Nat.le_trans hZ hS.1, hT⟩ ⟨Nat.le_of_ble_eq_true rfl, Nat.le_of_ble_eq_true rfl⟩ rfl hl.1 rfl (Nat.le_of_ble_eq_true rfl) dX4_step_172 ⟨Nat.le_of_ble_eq_true rfl, Nat.le_of_ble_eq_true rfl⟩) (fun r_108 hr_108 => ?_)
                  refine lv_aload_n hx hb dX4_step_175 rfl (lv_at hl 1 rfl) ?_
                  refine t_geti cf_2 hx hb hts hown hK hT h_a (k := 4) rfl fl_X4_33 (fun _ h9 => h9) dX4_step_176 (fun z_109 ez_109 rz_109 => ?_)
                  have w_110 : z_95 = z_109 := ez_95.trans ez_109.symm
                  subst w_110
                  refine lv_icmp_ne (tgt := 186) hx hb dX4_step_179 (by decide) (fun c_111 => ?_) (fun c_111 => ?_)
                  · skip
                    have tc_111 : ¬ r_108.toInt = z_95.toInt := fun h => c_111 ((fa_eq _ _).mpr h)
                    refine lv_iconst (v := 0) hx hb dX4_step_186 (by decide) ?_
                    refine lv_istore_n (lv' := [(1, .int 0), (0, .ref a)]) hx hb dX4_step_187 rfl hl (by decide) rfl (fun ls hl => ?_)
                    refine lv_goto (tgt := 90) hx hb dX4_step_188 (by decide) ?_
                    exact ih38 ((0 : Int32), z_88, G_89) _ _ _ (by show (ln.toInt - z_88.toInt).toNat < (ln.toInt - x38_sp.toInt).toNat; omega) ⟨(min_t z_88), (max_t z_88), (show f0 = G_89.1 a 0 from by first | exact k_90 | omega), (show ln = G_89.1 a 3 from by first | exact k_91 | omega), k_94, hF, hT, hS, lv_sub hl [0, 1] rfl⟩
                  · skip
                    have tc_111 : r_108.toInt = z_95.toInt := (fa_eq _ _).mp c_111
                    refine lv_iconst (v := 1) hx hb dX4_step_182 (by decide) ?_
                    refine lv_goto (tgt := 187) hx hb dX4_step_183 (by decide) ?_
                    refine lv_istore_n (lv' := [(1, .int 1), (0, .ref a)]) hx hb dX4_step_187 rfl hl (by decide) rfl (fun ls hl => ?_)
                    refine lv_goto (tgt := 90) hx hb dX4_step_188 (by decide) ?_
                    exact ih38 ((1 : Int32), z_88, G_89) _ _ _ (by show (ln.toInt - z_88.toInt).toNat < (ln.toInt - x38_sp.toInt).toNat; omega) ⟨(min_t z_88), (max_t z_88), (show f0 = G_89.1 a 0 from by first | exact k_90 | omega), (show ln = G_89.1 a 3 from by first | exact k_91 | omega), k_94, hF, hT, hS, lv_sub hl [0, 1] rfl⟩
      · skip
        have tc_37 : ¬ z_36.toInt = 0 := fun h => c_37 ((fa_eq _ _).mpr h)
        refine lv_iconst (v := 1) hx hb dX4_step_84 (by decide) ?_
        refine lv_goto (tgt := 89) hx hb dX4_step_85 (by decide) ?_
        refine lv_istore_n (lv' := [(1, .int 1), (0, .ref a)]) hx hb dX4_step_89 rfl hl (by decide) rfl (fun ls hl => ?_)
        refine W.loop (σ := Int32 × Int32 × Gh) (fun w112 H locs ls => -2147483648 ≤ w112.2.1.toInt ∧ w112.2.1.toInt ≤ 2147483647 ∧ f0 = w112.2.2.1 a 0 ∧ ln = w112.2.2.1 a 3 ∧ w112.2.1 = w112.2.2.1 a 6 ∧ Fr τ [2] G w112.2.2 ∧ TY D cy base τ w112.2.2 H ∧ va_S (RA base) s.heap H locs ∧ lv_has ls 2 [(1, .int w112.1), (0, .ref a)]) (fun w112 => (ln.toInt - w112.2.1.toInt).toNat) ?_ ((1 : Int32), x10_st, G_30) _ _ _ ⟨(min_t x10_st), (max_t x10_st), (by show f0 = G_30.1 a 0; exact k_31), (by show ln = G_30.1 a 3; exact k_32), k_35, hF, hT, hS, lv_sub hl [0, 1] rfl⟩
        intro w112 H locs ls hI ih112
        obtain ⟨x112_1, x112_sp, G_112⟩ := w112
        obtain ⟨i112_0, i112_1, i112_2, i112_3, i112_4, hF, hT, hS, hl⟩ := hI
        have i112_0 : -2147483648 ≤ x112_sp.toInt := i112_0
        have i112_1 : x112_sp.toInt ≤ 2147483647 := i112_1
        have i112_2 : f0 = G_112.1 a 0 := i112_2
        have i112_3 : ln = G_112.1 a 3 := i112_3
        have i112_4 : x112_sp = G_112.1 a 6 := i112_4
        have hF : Fr τ [2] G G_112 := hF
        have hT : TY D cy base τ G_112 H := hT
        have hS : va_S (RA base) s.heap H locs := hS
        have hl : lv_has ls 2 [(1, .int x112_1), (0, .ref a)] := hl
        refine lv_iload_n hx hb dX4_step_90 rfl (lv_at hl 0 rfl) ?_
        refine lv_if_eq (tgt := 191) hx hb dX4_step_91 (by decide) (fun c_113 => ?_) (fun c_113 => ?_)
        · skip
          have tc_113 : x112_1.toInt = 0 := (fa_eq _ _).mp c_113
          exact ret_v hx hb hr hlocks ⟨⟨hS.1, hS.2.1⟩, G_112, hF, ⟨rfl, (i112_2.symm.trans e_f0)⟩, hT⟩ hS.2.2 (Nat.le_of_ble_eq_true rfl) (Nat.le_of_ble_eq_true rfl) dX4_step_191
        · skip
          have tc_113 : ¬ x112_1.toInt = 0 := fun h => c_113 ((fa_eq _ _).mpr h)
          refine lv_aload_n hx hb dX4_step_94 rfl (lv_at hl 1 rfl) ?_
          refine t_geti cf_2 hx hb hts hown hK hT h_a (k := 6) rfl fl_X4_92 (fun _ h9 => h9) dX4_step_95 (fun z_114 ez_114 rz_114 => ?_)
          have w_115 : x112_sp = z_114 := i112_4.trans ez_114.symm
          subst w_115
          refine lv_aload_n hx hb dX4_step_98 rfl (lv_at hl 1 rfl) ?_
          refine t_geti cf_2 hx hb hts hown hK hT h_a (k := 3) rfl fl_X4_30 (fun _ h9 => h9) dX4_step_99 (fun z_116 ez_116 rz_116 => ?_)
          have w_117 : ln = z_116 := i112_3.trans ez_116.symm
          subst w_117
          refine lv_icmp_ge (tgt := 191) hx hb dX4_step_102 (by decide) (fun c_118 => ?_) (fun c_118 => ?_)
          · skip
            have tc_118 : ln.toInt ≤ x112_sp.toInt := (fa_le _ _).mp c_118
            exact ret_v hx hb hr hlocks ⟨⟨hS.1, hS.2.1⟩, G_112, hF, ⟨rfl, (i112_2.symm.trans e_f0)⟩, hT⟩ hS.2.2 (Nat.le_of_ble_eq_true rfl) (Nat.le_of_ble_eq_true rfl) dX4_step_191
          · skip
            have tc_118 : ¬ ln.toInt ≤ x112_sp.toInt := fun h => c_118 ((fa_le _ _).mpr h)
            refine lv_aload_n hx hb dX4_step_105 rfl (lv_at hl 1 rfl) ?_
            refine t_geti cf_2 hx hb hts hown hK hT h_a (k := 4) rfl fl_X4_33 (fun _ h9 => h9) dX4_step_106 (fun z_119 ez_119 rz_119 => ?_)
            have ez_119 : z_119 = G_112.1 a 4 := ez_119
            refine lv_iconst (v := 2) hx hb dX4_step_109 (by decide) ?_
            refine lv_icmp_ne (tgt := 141) hx hb dX4_step_110 (by decide) (fun c_120 => ?_) (fun c_120 => ?_)
            · skip
              have tc_120 : ¬ z_119.toInt = 2 := fun h => c_120 ((fa_eq _ _).mpr h)
              refine lv_aload_n hx hb dX4_step_141 rfl (lv_at hl 1 rfl) ?_
              refine lv_dup hx hb dX4_step_142 rfl ?_
              refine t_geti cf_2 hx hb hts hown hK hT h_a (k := 6) rfl fl_X4_92 (fun _ h9 => h9) dX4_step_143 (fun z_121 ez_121 rz_121 => ?_)
              have w_122 : x112_sp = z_121 := i112_4.trans ez_121.symm
              subst w_122
              refine lv_iconst (v := 1) hx hb dX4_step_146 (by decide) ?_
              refine lv_iadd hx hb dX4_step_147 ?_
              refine lv_topi (fun z_123 ez_123 => ?_)
              have tz_123 : z_123.toInt = x112_sp.toInt + 1 := add_t ez_123 (show -2147483648 ≤ x112_sp.toInt + 1 by omega) (show x112_sp.toInt + 1 < 2147483648 by omega)
              refine t_puti (x := z_123) cf_2 hx hb hts hown hK hT hS h_a (k := 6) rfl trivial fl_X4_92 (fun _ h9 => h9) rfl rfl rfl dX4_step_148 (fun H locs G_124 eG_124 hT hS => ?_)
              have hF := hF.wI eG_124 h_a rfl
              have k_125 : f0 = G_124.1 a 0 := by rw [eG_124, wI_ne (Or.inr (by decide))]; exact i112_2
              have k_126 : ln = G_124.1 a 3 := by rw [eG_124, wI_ne (Or.inr (by decide))]; exact i112_3
              have k_128 : z_123 = G_124.1 a 6 := by rw [eG_124, wI_at]
              refine lv_aload_n hx hb dX4_step_151 rfl (lv_at hl 1 rfl) ?_
              refine t_geti cf_2 hx hb hts hown hK hT h_a (k := 4) rfl fl_X4_33 (fun _ h9 => h9) dX4_step_152 (fun z_129 ez_129 rz_129 => ?_)
              have ez_129 : z_129 = G_124.1 a 4 := ez_129
              refine lv_iconst (v := 1) hx hb dX4_step_155 (by decide) ?_
              refine lv_icmp_eq (tgt := 167) hx hb dX4_step_156 (by decide) (fun c_130 => ?_) (fun c_130 => ?_)
              · skip
                have tc_130 : z_129.toInt = 1 := (fa_eq _ _).mp c_130
                refine lv_aload_n hx hb dX4_step_167 rfl (lv_at hl 1 rfl) ?_
                refine lv_aload_n hx hb dX4_step_168 rfl (lv_at hl 1 rfl) ?_
                refine t_geti cf_2 hx hb hts hown hK hT h_a (k := 6) rfl fl_X4_92 (fun _ h9 => h9) dX4_step_169 (fun z_131 ez_131 rz_131 => ?_)
                have w_132 : z_123 = z_131 := k_128.trans ez_131.symm
                subst w_132
                refine pu_calli (runV (As := [.int z_123]) (rest := []) ⟨hx, hb, hml, hown, hts⟩ (t_X4_kindAt l D cy base τ G_124 a h_a z_123) sV_X4_226 hK (t_recv cf_2 hK hT h_a) ⟨Nat.le_trans hZ hS.1, hT⟩ ⟨Nat.le_of_ble_eq_true rfl, Nat.le_of_ble_eq_true rfl⟩ rfl hl.1 rfl (Nat.le_of_ble_eq_true rfl) dX4_step_172 ⟨Nat.le_of_ble_eq_true rfl, Nat.le_of_ble_eq_true rfl⟩) (fun r_133 hr_133 => ?_)
                refine lv_aload_n hx hb dX4_step_175 rfl (lv_at hl 1 rfl) ?_
                refine t_geti cf_2 hx hb hts hown hK hT h_a (k := 4) rfl fl_X4_33 (fun _ h9 => h9) dX4_step_176 (fun z_134 ez_134 rz_134 => ?_)
                have w_135 : z_129 = z_134 := ez_129.trans ez_134.symm
                subst w_135
                refine lv_icmp_ne (tgt := 186) hx hb dX4_step_179 (by decide) (fun c_136 => ?_) (fun c_136 => ?_)
                · skip
                  have tc_136 : ¬ r_133.toInt = z_129.toInt := fun h => c_136 ((fa_eq _ _).mpr h)
                  refine lv_iconst (v := 0) hx hb dX4_step_186 (by decide) ?_
                  refine lv_istore_n (lv' := [(1, .int 0), (0, .ref a)]) hx hb dX4_step_187 rfl hl (by decide) rfl (fun ls hl => ?_)
                  refine lv_goto (tgt := 90) hx hb dX4_step_188 (by decide) ?_
                  exact ih112 ((0 : Int32), z_123, G_124) _ _ _ (by show (ln.toInt - z_123.toInt).toNat < (ln.toInt - x112_sp.toInt).toNat; omega) ⟨(min_t z_123), (max_t z_123), (show f0 = G_124.1 a 0 from by first | exact k_125 | omega), (show ln = G_124.1 a 3 from by first | exact k_126 | omega), k_128, hF, hT, hS, lv_sub hl [0, 1] rfl⟩
                · skip
                  have tc_136 : r_133.toInt = z_129.toInt := (fa_eq _ _).mp c_136
                  refine lv_iconst (v := 1) hx hb dX4_step_182 (by decide) ?_
                  refine lv_goto (tgt := 187) hx hb dX4_step_183 (by decide) ?_
                  refine lv_istore_n (lv' := [(1, .int 1), (0, .ref a)]) hx hb dX4_step_187 rfl hl (by decide) rfl (fun ls hl => ?_)
                  refine lv_goto (tgt := 90) hx hb dX4_step_188 (by decide) ?_
                  exact ih112 ((1 : Int32), z_123, G_124) _ _ _ (by show (ln.toInt - z_123.toInt).toNat < (ln.toInt - x112_sp.toInt).toNat; omega) ⟨(min_t z_123), (max_t z_123), (show f0 = G_124.1 a 0 from by first | exact k_125 | omega), (show ln = G_124.1 a 3 from by first | exact k_126 | omega), k_128, hF, hT, hS, lv_sub hl [0, 1] rfl⟩
              · skip
                have tc_130 : ¬ z_129.toInt = 1 := fun h => c_130 ((fa_eq _ _).mpr h)
                refine lv_aload_n hx hb dX4_step_159 rfl (lv_at hl 1 rfl) ?_
                refine t_geti cf_2 hx hb hts hown hK hT h_a (k := 4) rfl fl_X4_33 (fun _ h9 => h9) dX4_step_160 (fun z_137 ez_137 rz_137 => ?_)
                have w_138 : z_129 = z_137 := ez_129.trans ez_137.symm
                subst w_138
                refine lv_iconst (v := 2) hx hb dX4_step_163 (by decide) ?_
                refine lv_icmp_ne (tgt := 186) hx hb dX4_step_164 (by decide) (fun c_139 => ?_) (fun c_139 => ?_)
                · skip
                  have tc_139 : ¬ z_129.toInt = 2 := fun h => c_139 ((fa_eq _ _).mpr h)
                  refine lv_iconst (v := 0) hx hb dX4_step_186 (by decide) ?_
                  refine lv_istore_n (lv' := [(1, .int 0), (0, .ref a)]) hx hb dX4_step_187 rfl hl (by decide) rfl (fun ls hl => ?_)
                  refine lv_goto (tgt := 90) hx hb dX4_step_188 (by decide) ?_
                  exact ih112 ((0 : Int32), z_123, G_124) _ _ _ (by show (ln.toInt - z_123.toInt).toNat < (ln.toInt - x112_sp.toInt).toNat; omega) ⟨(min_t z_123), (max_t z_123), (show f0 = G_124.1 a 0 from by first | exact k_125 | omega), (show ln = G_124.1 a 3 from by first | exact k_126 | omega), k_128, hF, hT, hS, lv_sub hl [0, 1] rfl⟩
                · skip
                  have tc_139 : z_129.toInt = 2 := (fa_eq _ _).mp c_139
                  refine lv_aload_n hx hb dX4_step_167 rfl (lv_at hl 1 rfl) ?_
                  refine lv_aload_n hx hb dX4_step_168 rfl (lv_at hl 1 rfl) ?_
                  refine t_geti cf_2 hx hb hts hown hK hT h_a (k := 6) rfl fl_X4_92 (fun _ h9 => h9) dX4_step_169 (fun z_140 ez_140 rz_140 => ?_)
                  have w_141 : z_123 = z_140 := k_128.trans ez_140.symm
                  subst w_141
                  refine pu_calli (runV (As := [.int z_123]) (rest := []) ⟨hx, hb, hml, hown, hts⟩ (t_X4_kindAt l D cy base τ G_124 a h_a z_123) sV_X4_226 hK (t_recv cf_2 hK hT h_a) ⟨Nat.le_trans hZ hS.1, hT⟩ ⟨Nat.le_of_ble_eq_true rfl, Nat.le_of_ble_eq_true rfl⟩ rfl hl.1 rfl (Nat.le_of_ble_eq_true rfl) dX4_step_172 ⟨Nat.le_of_ble_eq_true rfl, Nat.le_of_ble_eq_true rfl⟩) (fun r_142 hr_142 => ?_)
                  refine lv_aload_n hx hb dX4_step_175 rfl (lv_at hl 1 rfl) ?_
                  refine t_geti cf_2 hx hb hts hown hK hT h_a (k := 4) rfl fl_X4_33 (fun _ h9 => h9) dX4_step_176 (fun z_143 ez_143 rz_143 => ?_)
                  have w_144 : z_129 = z_143 := ez_129.trans ez_143.symm
                  subst w_144
                  refine lv_icmp_ne (tgt := 186) hx hb dX4_step_179 (by decide) (fun c_145 => ?_) (fun c_145 => ?_)
                  · skip
                    have tc_145 : ¬ r_142.toInt = z_129.toInt := fun h => c_145 ((fa_eq _ _).mpr h)
                    refine lv_iconst (v := 0) hx hb dX4_step_186 (by decide) ?_
                    refine lv_istore_n (lv' := [(1, .int 0), (0, .ref a)]) hx hb dX4_step_187 rfl hl (by decide) rfl (fun ls hl => ?_)
                    refine lv_goto (tgt := 90) hx hb dX4_step_188 (by decide) ?_
                    exact ih112 ((0 : Int32), z_123, G_124) _ _ _ (by show (ln.toInt - z_123.toInt).toNat < (ln.toInt - x112_sp.toInt).toNat; omega) ⟨(min_t z_123), (max_t z_123), (show f0 = G_124.1 a 0 from by first | exact k_125 | omega), (show ln = G_124.1 a 3 from by first | exact k_126 | omega), k_128, hF, hT, hS, lv_sub hl [0, 1] rfl⟩
                  · skip
                    have tc_145 : r_142.toInt = z_129.toInt := (fa_eq _ _).mp c_145
                    refine lv_iconst (v := 1) hx hb dX4_step_182 (by decide) ?_
                    refine lv_goto (tgt := 187) hx hb dX4_step_183 (by decide) ?_
                    refine lv_istore_n (lv' := [(1, .int 1), (0, .ref a)]) hx hb dX4_step_187 rfl hl (by decide) rfl (fun ls hl => ?_)
                    refine lv_goto (tgt := 90) hx hb dX4_step_188 (by decide) ?_
                    exact ih112 ((1 : Int32), z_123, G_124) _ _ _ (by show (ln.toInt - z_123.toInt).toNat < (ln.toInt - x112_sp.toInt).toNat; omega) ⟨(min_t z_123), (max_t z_123), (show f0 = G_124.1 a 0 from by first | exact k_125 | omega), (show ln = G_124.1 a 3 from by first | exact k_126 | omega), k_128, hF, hT, hS, lv_sub hl [0, 1] rfl⟩
            · skip
              have tc_120 : z_119.toInt = 2 := (fa_eq _ _).mp c_120
              refine lv_aload_n hx hb dX4_step_113 rfl (lv_at hl 1 rfl) ?_
              refine lv_ldc (v := 99999) hx hb hown (hts _ ki_X4_229) dX4_step_114 ?_
              refine lv_aload_n hx hb dX4_step_116 rfl (lv_at hl 1 rfl) ?_
              refine t_geti cf_2 hx hb hts hown hK hT h_a (k := 7) rfl fl_X4_197 (fun _ h9 => h9) dX4_step_117 (fun z_146 ez_146 rz_146 => ?_)
              have ez_146 : z_146 = G_112.1 a 7 := ez_146
              refine lv_bipush (v := 10) hx hb dX4_step_120 (by decide) ?_
              refine lv_imul hx hb dX4_step_122 ?_
              refine lv_topi (fun z_147 ez_147 => ?_)
              refine lv_aload_n hx hb dX4_step_123 rfl (lv_at hl 1 rfl) ?_
              refine lv_aload_n hx hb dX4_step_124 rfl (lv_at hl 1 rfl) ?_
              refine t_geti cf_2 hx hb hts hown hK hT h_a (k := 6) rfl fl_X4_92 (fun _ h9 => h9) dX4_step_125 (fun z_148 ez_148 rz_148 => ?_)
              have w_149 : x112_sp = z_148 := i112_4.trans ez_148.symm
              subst w_149
              refine pu_calli (runV (As := [.int x112_sp]) (rest := [.int z_147, .int 99999, .ref a]) ⟨hx, hb, hml, hown, hts⟩ (t_X4_signAt l D cy base τ G_112 a h_a x112_sp) sV_X4_218 hK (t_recv cf_2 hK hT h_a) ⟨Nat.le_trans hZ hS.1, hT⟩ ⟨Nat.le_of_ble_eq_true rfl, Nat.le_of_ble_eq_true rfl⟩ rfl hl.1 rfl (Nat.le_of_ble_eq_true rfl) dX4_step_128 ⟨Nat.le_of_ble_eq_true rfl, Nat.le_of_ble_eq_true rfl⟩) (fun r_150 hr_150 => ?_)
              refine lv_iadd hx hb dX4_step_131 ?_
              refine lv_topi (fun z_151 ez_151 => ?_)
              refine lv_bipush (v := 48) hx hb dX4_step_132 (by decide) ?_
              refine lv_isub hx hb dX4_step_134 ?_
              refine lv_topi (fun z_152 ez_152 => ?_)
              refine va_mmin hx hb (by rw [hml]; exact hl.1.symm) hown (hts _ ml_X4_86) (hts _ st_math_min) (hts _ ini_J9) (hts _ co_math_min) (Nat.le_of_ble_eq_true rfl) (Nat.le_of_ble_eq_true rfl) (Nat.le_of_ble_eq_true rfl) (Nat.le_of_ble_eq_true rfl) dX4_step_135 ?_
              refine lv_topi (fun z_153 ez_153 => ?_)
              have tz_153 : (99999 ≥ z_153.toInt ∧ z_152.toInt ≥ z_153.toInt ∧ (z_153.toInt = 99999 ∨ z_153.toInt = z_152.toInt)) := mmin_t ez_153
              refine t_puti (x := z_153) cf_2 hx hb hts hown hK hT hS h_a (k := 7) rfl trivial fl_X4_197 (fun _ h9 => h9) rfl rfl rfl dX4_step_138 (fun H locs G_154 eG_154 hT hS => ?_)
              have hF := hF.wI eG_154 h_a rfl
              have k_155 : f0 = G_154.1 a 0 := by rw [eG_154, wI_ne (Or.inr (by decide))]; exact i112_2
              have k_156 : ln = G_154.1 a 3 := by rw [eG_154, wI_ne (Or.inr (by decide))]; exact i112_3
              have k_157 : x112_sp = G_154.1 a 6 := by rw [eG_154, wI_ne (Or.inr (by decide))]; exact i112_4
              have k_159 : z_153 = G_154.1 a 7 := by rw [eG_154, wI_at]
              refine lv_aload_n hx hb dX4_step_141 rfl (lv_at hl 1 rfl) ?_
              refine lv_dup hx hb dX4_step_142 rfl ?_
              refine t_geti cf_2 hx hb hts hown hK hT h_a (k := 6) rfl fl_X4_92 (fun _ h9 => h9) dX4_step_143 (fun z_160 ez_160 rz_160 => ?_)
              have w_161 : x112_sp = z_160 := k_157.trans ez_160.symm
              subst w_161
              refine lv_iconst (v := 1) hx hb dX4_step_146 (by decide) ?_
              refine lv_iadd hx hb dX4_step_147 ?_
              refine lv_topi (fun z_162 ez_162 => ?_)
              have tz_162 : z_162.toInt = x112_sp.toInt + 1 := add_t ez_162 (show -2147483648 ≤ x112_sp.toInt + 1 by omega) (show x112_sp.toInt + 1 < 2147483648 by omega)
              refine t_puti (x := z_162) cf_2 hx hb hts hown hK hT hS h_a (k := 6) rfl trivial fl_X4_92 (fun _ h9 => h9) rfl rfl rfl dX4_step_148 (fun H locs G_163 eG_163 hT hS => ?_)
              have hF := hF.wI eG_163 h_a rfl
              have k_164 : f0 = G_163.1 a 0 := by rw [eG_163, wI_ne (Or.inr (by decide))]; exact k_155
              have k_165 : ln = G_163.1 a 3 := by rw [eG_163, wI_ne (Or.inr (by decide))]; exact k_156
              have k_167 : z_153 = G_163.1 a 7 := by rw [eG_163, wI_ne (Or.inr (by decide))]; exact k_159
              have k_168 : z_162 = G_163.1 a 6 := by rw [eG_163, wI_at]
              refine lv_aload_n hx hb dX4_step_151 rfl (lv_at hl 1 rfl) ?_
              refine t_geti cf_2 hx hb hts hown hK hT h_a (k := 4) rfl fl_X4_33 (fun _ h9 => h9) dX4_step_152 (fun z_169 ez_169 rz_169 => ?_)
              have ez_169 : z_169 = G_163.1 a 4 := ez_169
              refine lv_iconst (v := 1) hx hb dX4_step_155 (by decide) ?_
              refine lv_icmp_eq (tgt := 167) hx hb dX4_step_156 (by decide) (fun c_170 => ?_) (fun c_170 => ?_)
              · skip
                have tc_170 : z_169.toInt = 1 := (fa_eq _ _).mp c_170
                refine lv_aload_n hx hb dX4_step_167 rfl (lv_at hl 1 rfl) ?_
                refine lv_aload_n hx hb dX4_step_168 rfl (lv_at hl 1 rfl) ?_
                refine t_geti cf_2 hx hb hts hown hK hT h_a (k := 6) rfl fl_X4_92 (fun _ h9 => h9) dX4_step_169 (fun z_171 ez_171 rz_171 => ?_)
                have w_172 : z_162 = z_171 := k_168.trans ez_171.symm
                subst w_172
                refine pu_calli (runV (As := [.int z_162]) (rest := []) ⟨hx, hb, hml, hown, hts⟩ (t_X4_kindAt l D cy base τ G_163 a h_a z_162) sV_X4_226 hK (t_recv cf_2 hK hT h_a) ⟨Nat.le_trans hZ hS.1, hT⟩ ⟨Nat.le_of_ble_eq_true rfl, Nat.le_of_ble_eq_true rfl⟩ rfl hl.1 rfl (Nat.le_of_ble_eq_true rfl) dX4_step_172 ⟨Nat.le_of_ble_eq_true rfl, Nat.le_of_ble_eq_true rfl⟩) (fun r_173 hr_173 => ?_)
                refine lv_aload_n hx hb dX4_step_175 rfl (lv_at hl 1 rfl) ?_
                refine t_geti cf_2 hx hb hts hown hK hT h_a (k := 4) rfl fl_X4_33 (fun _ h9 => h9) dX4_step_176 (fun z_174 ez_174 rz_174 => ?_)
                have w_175 : z_169 = z_174 := ez_169.trans ez_174.symm
                subst w_175
                refine lv_icmp_ne (tgt := 186) hx hb dX4_step_179 (by decide) (fun c_176 => ?_) (fun c_176 => ?_)
                · skip
                  have tc_176 : ¬ r_173.toInt = z_169.toInt := fun h => c_176 ((fa_eq _ _).mpr h)
                  refine lv_iconst (v := 0) hx hb dX4_step_186 (by decide) ?_
                  refine lv_istore_n (lv' := [(1, .int 0), (0, .ref a)]) hx hb dX4_step_187 rfl hl (by decide) rfl (fun ls hl => ?_)
                  refine lv_goto (tgt := 90) hx hb dX4_step_188 (by decide) ?_
                  exact ih112 ((0 : Int32), z_162, G_163) _ _ _ (by show (ln.toInt - z_162.toInt).toNat < (ln.toInt - x112_sp.toInt).toNat; omega) ⟨(min_t z_162), (max_t z_162), (show f0 = G_163.1 a 0 from by first | exact k_164 | omega), (show ln = G_163.1 a 3 from by first | exact k_165 | omega), k_168, hF, hT, hS, lv_sub hl [0, 1] rfl⟩
                · skip
                  have tc_176 : r_173.toInt = z_169.toInt := (fa_eq _ _).mp c_176
                  refine lv_iconst (v := 1) hx hb dX4_step_182 (by decide) ?_
                  refine lv_goto (tgt := 187) hx hb dX4_step_183 (by decide) ?_
                  refine lv_istore_n (lv' := [(1, .int 1), (0, .ref a)]) hx hb dX4_step_187 rfl hl (by decide) rfl (fun ls hl => ?_)
                  refine lv_goto (tgt := 90) hx hb dX4_step_188 (by decide) ?_
                  exact ih112 ((1 : Int32), z_162, G_163) _ _ _ (by show (ln.toInt - z_162.toInt).toNat < (ln.toInt - x112_sp.toInt).toNat; omega) ⟨(min_t z_162), (max_t z_162), (show f0 = G_163.1 a 0 from by first | exact k_164 | omega), (show ln = G_163.1 a 3 from by first | exact k_165 | omega), k_168, hF, hT, hS, lv_sub hl [0, 1] rfl⟩
              · skip
                have tc_170 : ¬ z_169.toInt = 1 := fun h => c_170 ((fa_eq _ _).mpr h)
                refine lv_aload_n hx hb dX4_step_159 rfl (lv_at hl 1 rfl) ?_
                refine t_geti cf_2 hx hb hts hown hK hT h_a (k := 4) rfl fl_X4_33 (fun _ h9 => h9) dX4_step_160 (fun z_177 ez_177 rz_177 => ?_)
                have w_178 : z_169 = z_177 := ez_169.trans ez_177.symm
                subst w_178
                refine lv_iconst (v := 2) hx hb dX4_step_163 (by decide) ?_
                refine lv_icmp_ne (tgt := 186) hx hb dX4_step_164 (by decide) (fun c_179 => ?_) (fun c_179 => ?_)
                · skip
                  have tc_179 : ¬ z_169.toInt = 2 := fun h => c_179 ((fa_eq _ _).mpr h)
                  refine lv_iconst (v := 0) hx hb dX4_step_186 (by decide) ?_
                  refine lv_istore_n (lv' := [(1, .int 0), (0, .ref a)]) hx hb dX4_step_187 rfl hl (by decide) rfl (fun ls hl => ?_)
                  refine lv_goto (tgt := 90) hx hb dX4_step_188 (by decide) ?_
                  exact ih112 ((0 : Int32), z_162, G_163) _ _ _ (by show (ln.toInt - z_162.toInt).toNat < (ln.toInt - x112_sp.toInt).toNat; omega) ⟨(min_t z_162), (max_t z_162), (show f0 = G_163.1 a 0 from by first | exact k_164 | omega), (show ln = G_163.1 a 3 from by first | exact k_165 | omega), k_168, hF, hT, hS, lv_sub hl [0, 1] rfl⟩
                · skip
                  have tc_179 : z_169.toInt = 2 := (fa_eq _ _).mp c_179
                  refine lv_aload_n hx hb dX4_step_167 rfl (lv_at hl 1 rfl) ?_
                  refine lv_aload_n hx hb dX4_step_168 rfl (lv_at hl 1 rfl) ?_
                  refine t_geti cf_2 hx hb hts hown hK hT h_a (k := 6) rfl fl_X4_92 (fun _ h9 => h9) dX4_step_169 (fun z_180 ez_180 rz_180 => ?_)
                  have w_181 : z_162 = z_180 := k_168.trans ez_180.symm
                  subst w_181
                  refine pu_calli (runV (As := [.int z_162]) (rest := []) ⟨hx, hb, hml, hown, hts⟩ (t_X4_kindAt l D cy base τ G_163 a h_a z_162) sV_X4_226 hK (t_recv cf_2 hK hT h_a) ⟨Nat.le_trans hZ hS.1, hT⟩ ⟨Nat.le_of_ble_eq_true rfl, Nat.le_of_ble_eq_true rfl⟩ rfl hl.1 rfl (Nat.le_of_ble_eq_true rfl) dX4_step_172 ⟨Nat.le_of_ble_eq_true rfl, Nat.le_of_ble_eq_true rfl⟩) (fun r_182 hr_182 => ?_)
                  refine lv_aload_n hx hb dX4_step_175 rfl (lv_at hl 1 rfl) ?_
                  refine t_geti cf_2 hx hb hts hown hK hT h_a (k := 4) rfl fl_X4_33 (fun _ h9 => h9) dX4_step_176 (fun z_183 ez_183 rz_183 => ?_)
                  have w_184 : z_169 = z_183 := ez_169.trans ez_183.symm
                  subst w_184
                  refine lv_icmp_ne (tgt := 186) hx hb dX4_step_179 (by decide) (fun c_185 => ?_) (fun c_185 => ?_)
                  · skip
                    have tc_185 : ¬ r_182.toInt = z_169.toInt := fun h => c_185 ((fa_eq _ _).mpr h)
                    refine lv_iconst (v := 0) hx hb dX4_step_186 (by decide) ?_
                    refine lv_istore_n (lv' := [(1, .int 0), (0, .ref a)]) hx hb dX4_step_187 rfl hl (by decide) rfl (fun ls hl => ?_)
                    refine lv_goto (tgt := 90) hx hb dX4_step_188 (by decide) ?_
                    exact ih112 ((0 : Int32), z_162, G_163) _ _ _ (by show (ln.toInt - z_162.toInt).toNat < (ln.toInt - x112_sp.toInt).toNat; omega) ⟨(min_t z_162), (max_t z_162), (show f0 = G_163.1 a 0 from by first | exact k_164 | omega), (show ln = G_163.1 a 3 from by first | exact k_165 | omega), k_168, hF, hT, hS, lv_sub hl [0, 1] rfl⟩
                  · skip
                    have tc_185 : r_182.toInt = z_169.toInt := (fa_eq _ _).mp c_185
                    refine lv_iconst (v := 1) hx hb dX4_step_182 (by decide) ?_
                    refine lv_goto (tgt := 187) hx hb dX4_step_183 (by decide) ?_
                    refine lv_istore_n (lv' := [(1, .int 1), (0, .ref a)]) hx hb dX4_step_187 rfl hl (by decide) rfl (fun ls hl => ?_)
                    refine lv_goto (tgt := 90) hx hb dX4_step_188 (by decide) ?_
                    exact ih112 ((1 : Int32), z_162, G_163) _ _ _ (by show (ln.toInt - z_162.toInt).toNat < (ln.toInt - x112_sp.toInt).toNat; omega) ⟨(min_t z_162), (max_t z_162), (show f0 = G_163.1 a 0 from by first | exact k_164 | omega), (show ln = G_163.1 a 3 from by first | exact k_165 | omega), k_168, hF, hT, hS, lv_sub hl [0, 1] rfl⟩
    · skip
      have tc_15 : ¬ ln.toInt ≤ x10_st.toInt := fun h => c_15 ((fa_le _ _).mpr h)
      have mc_15 : ln.toInt ≤ 2147483647 := max_t ln
      refine lv_aload_n hx hb dX4_step_27 rfl (lv_at hl 0 rfl) ?_
      refine lv_aload_n hx hb dX4_step_28 rfl (lv_at hl 0 rfl) ?_
      refine t_geti cf_2 hx hb hts hown hK hT h_a (k := 5) rfl fl_X4_210 (fun _ h9 => h9) dX4_step_29 (fun z_186 ez_186 rz_186 => ?_)
      have w_187 : x10_st = z_186 := i10_4.trans ez_186.symm
      subst w_187
      refine pu_calli (runV (As := [.int x10_st]) (rest := []) ⟨hx, hb, hml, hown, hts⟩ (t_X4_kindAt l D cy base τ G_10 a h_a x10_st) sV_X4_226 hK (t_recv cf_2 hK hT h_a) ⟨Nat.le_trans hZ hS.1, hT⟩ ⟨Nat.le_of_ble_eq_true rfl, Nat.le_of_ble_eq_true rfl⟩ rfl hl.1 rfl (Nat.le_of_ble_eq_true rfl) dX4_step_32 ⟨Nat.le_of_ble_eq_true rfl, Nat.le_of_ble_eq_true rfl⟩) (fun r_188 hr_188 => ?_)
      refine lv_iconst (v := 4) hx hb dX4_step_35 (by decide) ?_
      refine lv_icmp_ne (tgt := 52) hx hb dX4_step_36 (by decide) (fun c_189 => ?_) (fun c_189 => ?_)
      · skip
        have tc_189 : ¬ r_188.toInt = 4 := fun h => c_189 ((fa_eq _ _).mpr h)
        refine lv_aload_n hx hb dX4_step_52 rfl (lv_at hl 0 rfl) ?_
        refine lv_aload_n hx hb dX4_step_53 rfl (lv_at hl 0 rfl) ?_
        refine lv_aload_n hx hb dX4_step_54 rfl (lv_at hl 0 rfl) ?_
        refine t_geti cf_2 hx hb hts hown hK hT h_a (k := 5) rfl fl_X4_210 (fun _ h9 => h9) dX4_step_55 (fun z_190 ez_190 rz_190 => ?_)
        have w_191 : x10_st = z_190 := i10_4.trans ez_190.symm
        subst w_191
        refine pu_calli (runV (As := [.int x10_st]) (rest := [.ref a]) ⟨hx, hb, hml, hown, hts⟩ (t_X4_kindAt l D cy base τ G_10 a h_a x10_st) sV_X4_226 hK (t_recv cf_2 hK hT h_a) ⟨Nat.le_trans hZ hS.1, hT⟩ ⟨Nat.le_of_ble_eq_true rfl, Nat.le_of_ble_eq_true rfl⟩ rfl hl.1 rfl (Nat.le_of_ble_eq_true rfl) dX4_step_58 ⟨Nat.le_of_ble_eq_true rfl, Nat.le_of_ble_eq_true rfl⟩) (fun r_192 hr_192 => ?_)
        refine t_puti (x := r_192) cf_2 hx hb hts hown hK hT hS h_a (k := 4) rfl trivial fl_X4_33 (fun _ h9 => h9) rfl rfl rfl dX4_step_61 (fun H locs G_193 eG_193 hT hS => ?_)
        have hF := hF.wI eG_193 h_a rfl
        have k_194 : f0 = G_193.1 a 0 := by rw [eG_193, wI_ne (Or.inr (by decide))]; exact i10_2
        have k_195 : ln = G_193.1 a 3 := by rw [eG_193, wI_ne (Or.inr (by decide))]; exact i10_3
        have k_196 : x10_st = G_193.1 a 5 := by rw [eG_193, wI_ne (Or.inr (by decide))]; exact i10_4
        refine lv_aload_n hx hb dX4_step_64 rfl (lv_at hl 0 rfl) ?_
        refine lv_iconst (v := 0) hx hb dX4_step_65 (by decide) ?_
        refine t_puti (x := 0) cf_2 hx hb hts hown hK hT hS h_a (k := 7) rfl trivial fl_X4_197 (fun _ h9 => h9) rfl rfl rfl dX4_step_66 (fun H locs G_197 eG_197 hT hS => ?_)
        have hF := hF.wI eG_197 h_a rfl
        have k_198 : f0 = G_197.1 a 0 := by rw [eG_197, wI_ne (Or.inr (by decide))]; exact k_194
        have k_199 : ln = G_197.1 a 3 := by rw [eG_197, wI_ne (Or.inr (by decide))]; exact k_195
        have k_200 : x10_st = G_197.1 a 5 := by rw [eG_197, wI_ne (Or.inr (by decide))]; exact k_196
        have k_201 : (0 : Int32) = G_197.1 a 7 := by rw [eG_197, wI_at]
        refine lv_aload_n hx hb dX4_step_69 rfl (lv_at hl 0 rfl) ?_
        refine lv_aload_n hx hb dX4_step_70 rfl (lv_at hl 0 rfl) ?_
        refine t_geti cf_2 hx hb hts hown hK hT h_a (k := 5) rfl fl_X4_210 (fun _ h9 => h9) dX4_step_71 (fun z_202 ez_202 rz_202 => ?_)
        have w_203 : x10_st = z_202 := k_200.trans ez_202.symm
        subst w_203
        refine t_puti (x := x10_st) cf_2 hx hb hts hown hK hT hS h_a (k := 6) rfl trivial fl_X4_92 (fun _ h9 => h9) rfl rfl rfl dX4_step_74 (fun H locs G_204 eG_204 hT hS => ?_)
        have hF := hF.wI eG_204 h_a rfl
        have k_205 : f0 = G_204.1 a 0 := by rw [eG_204, wI_ne (Or.inr (by decide))]; exact k_198
        have k_206 : ln = G_204.1 a 3 := by rw [eG_204, wI_ne (Or.inr (by decide))]; exact k_199
        have k_207 : x10_st = G_204.1 a 5 := by rw [eG_204, wI_ne (Or.inr (by decide))]; exact k_200
        have k_208 : 0 = G_204.1 a 7 := by rw [eG_204, wI_ne (Or.inr (by decide))]; exact k_201
        have k_209 : x10_st = G_204.1 a 6 := by rw [eG_204, wI_at]
        refine lv_aload_n hx hb dX4_step_77 rfl (lv_at hl 0 rfl) ?_
        refine t_geti cf_2 hx hb hts hown hK hT h_a (k := 4) rfl fl_X4_33 (fun _ h9 => h9) dX4_step_78 (fun z_210 ez_210 rz_210 => ?_)
        have ez_210 : z_210 = G_204.1 a 4 := ez_210
        refine lv_if_eq (tgt := 88) hx hb dX4_step_81 (by decide) (fun c_211 => ?_) (fun c_211 => ?_)
        · skip
          have tc_211 : z_210.toInt = 0 := (fa_eq _ _).mp c_211
          refine lv_iconst (v := 0) hx hb dX4_step_88 (by decide) ?_
          refine lv_istore_n (lv' := [(1, .int 0), (0, .ref a)]) hx hb dX4_step_89 rfl hl (by decide) rfl (fun ls hl => ?_)
          refine W.loop (σ := Int32 × Int32 × Gh) (fun w212 H locs ls => -2147483648 ≤ w212.2.1.toInt ∧ w212.2.1.toInt ≤ 2147483647 ∧ f0 = w212.2.2.1 a 0 ∧ ln = w212.2.2.1 a 3 ∧ w212.2.1 = w212.2.2.1 a 6 ∧ Fr τ [2] G w212.2.2 ∧ TY D cy base τ w212.2.2 H ∧ va_S (RA base) s.heap H locs ∧ lv_has ls 2 [(1, .int w212.1), (0, .ref a)]) (fun w212 => (ln.toInt - w212.2.1.toInt).toNat) ?_ ((0 : Int32), x10_st, G_204) _ _ _ ⟨(min_t x10_st), (max_t x10_st), (by show f0 = G_204.1 a 0; exact k_205), (by show ln = G_204.1 a 3; exact k_206), k_209, hF, hT, hS, lv_sub hl [0, 1] rfl⟩
          intro w212 H locs ls hI ih212
          obtain ⟨x212_1, x212_sp, G_212⟩ := w212
          obtain ⟨i212_0, i212_1, i212_2, i212_3, i212_4, hF, hT, hS, hl⟩ := hI
          have i212_0 : -2147483648 ≤ x212_sp.toInt := i212_0
          have i212_1 : x212_sp.toInt ≤ 2147483647 := i212_1
          have i212_2 : f0 = G_212.1 a 0 := i212_2
          have i212_3 : ln = G_212.1 a 3 := i212_3
          have i212_4 : x212_sp = G_212.1 a 6 := i212_4
          have hF : Fr τ [2] G G_212 := hF
          have hT : TY D cy base τ G_212 H := hT
          have hS : va_S (RA base) s.heap H locs := hS
          have hl : lv_has ls 2 [(1, .int x212_1), (0, .ref a)] := hl
          refine lv_iload_n hx hb dX4_step_90 rfl (lv_at hl 0 rfl) ?_
          refine lv_if_eq (tgt := 191) hx hb dX4_step_91 (by decide) (fun c_213 => ?_) (fun c_213 => ?_)
          · skip
            have tc_213 : x212_1.toInt = 0 := (fa_eq _ _).mp c_213
            exact ret_v hx hb hr hlocks ⟨⟨hS.1, hS.2.1⟩, G_212, hF, ⟨rfl, (i212_2.symm.trans e_f0)⟩, hT⟩ hS.2.2 (Nat.le_of_ble_eq_true rfl) (Nat.le_of_ble_eq_true rfl) dX4_step_191
          · skip
            have tc_213 : ¬ x212_1.toInt = 0 := fun h => c_213 ((fa_eq _ _).mpr h)
            refine lv_aload_n hx hb dX4_step_94 rfl (lv_at hl 1 rfl) ?_
            refine t_geti cf_2 hx hb hts hown hK hT h_a (k := 6) rfl fl_X4_92 (fun _ h9 => h9) dX4_step_95 (fun z_214 ez_214 rz_214 => ?_)
            have w_215 : x212_sp = z_214 := i212_4.trans ez_214.symm
            subst w_215
            refine lv_aload_n hx hb dX4_step_98 rfl (lv_at hl 1 rfl) ?_
            refine t_geti cf_2 hx hb hts hown hK hT h_a (k := 3) rfl fl_X4_30 (fun _ h9 => h9) dX4_step_99 (fun z_216 ez_216 rz_216 => ?_)
            have w_217 : ln = z_216 := i212_3.trans ez_216.symm
            subst w_217
            refine lv_icmp_ge (tgt := 191) hx hb dX4_step_102 (by decide) (fun c_218 => ?_) (fun c_218 => ?_)
            · skip
              have tc_218 : ln.toInt ≤ x212_sp.toInt := (fa_le _ _).mp c_218
              exact ret_v hx hb hr hlocks ⟨⟨hS.1, hS.2.1⟩, G_212, hF, ⟨rfl, (i212_2.symm.trans e_f0)⟩, hT⟩ hS.2.2 (Nat.le_of_ble_eq_true rfl) (Nat.le_of_ble_eq_true rfl) dX4_step_191
            · skip
              have tc_218 : ¬ ln.toInt ≤ x212_sp.toInt := fun h => c_218 ((fa_le _ _).mpr h)
              refine lv_aload_n hx hb dX4_step_105 rfl (lv_at hl 1 rfl) ?_
              refine t_geti cf_2 hx hb hts hown hK hT h_a (k := 4) rfl fl_X4_33 (fun _ h9 => h9) dX4_step_106 (fun z_219 ez_219 rz_219 => ?_)
              have ez_219 : z_219 = G_212.1 a 4 := ez_219
              refine lv_iconst (v := 2) hx hb dX4_step_109 (by decide) ?_
              refine lv_icmp_ne (tgt := 141) hx hb dX4_step_110 (by decide) (fun c_220 => ?_) (fun c_220 => ?_)
              · skip
                have tc_220 : ¬ z_219.toInt = 2 := fun h => c_220 ((fa_eq _ _).mpr h)
                refine lv_aload_n hx hb dX4_step_141 rfl (lv_at hl 1 rfl) ?_
                refine lv_dup hx hb dX4_step_142 rfl ?_
                refine t_geti cf_2 hx hb hts hown hK hT h_a (k := 6) rfl fl_X4_92 (fun _ h9 => h9) dX4_step_143 (fun z_221 ez_221 rz_221 => ?_)
                have w_222 : x212_sp = z_221 := i212_4.trans ez_221.symm
                subst w_222
                refine lv_iconst (v := 1) hx hb dX4_step_146 (by decide) ?_
                refine lv_iadd hx hb dX4_step_147 ?_
                refine lv_topi (fun z_223 ez_223 => ?_)
                have tz_223 : z_223.toInt = x212_sp.toInt + 1 := add_t ez_223 (show -2147483648 ≤ x212_sp.toInt + 1 by omega) (show x212_sp.toInt + 1 < 2147483648 by omega)
                refine t_puti (x := z_223) cf_2 hx hb hts hown hK hT hS h_a (k := 6) rfl trivial fl_X4_92 (fun _ h9 => h9) rfl rfl rfl dX4_step_148 (fun H locs G_224 eG_224 hT hS => ?_)
                have hF := hF.wI eG_224 h_a rfl
                have k_225 : f0 = G_224.1 a 0 := by rw [eG_224, wI_ne (Or.inr (by decide))]; exact i212_2
                have k_226 : ln = G_224.1 a 3 := by rw [eG_224, wI_ne (Or.inr (by decide))]; exact i212_3
                have k_228 : z_223 = G_224.1 a 6 := by rw [eG_224, wI_at]
                refine lv_aload_n hx hb dX4_step_151 rfl (lv_at hl 1 rfl) ?_
                refine t_geti cf_2 hx hb hts hown hK hT h_a (k := 4) rfl fl_X4_33 (fun _ h9 => h9) dX4_step_152 (fun z_229 ez_229 rz_229 => ?_)
                have ez_229 : z_229 = G_224.1 a 4 := ez_229
                refine lv_iconst (v := 1) hx hb dX4_step_155 (by decide) ?_
                refine lv_icmp_eq (tgt := 167) hx hb dX4_step_156 (by decide) (fun c_230 => ?_) (fun c_230 => ?_)
                · skip
                  have tc_230 : z_229.toInt = 1 := (fa_eq _ _).mp c_230
                  refine lv_aload_n hx hb dX4_step_167 rfl (lv_at hl 1 rfl) ?_
                  refine lv_aload_n hx hb dX4_step_168 rfl (lv_at hl 1 rfl) ?_
                  refine t_geti cf_2 hx hb hts hown hK hT h_a (k := 6) rfl fl_X4_92 (fun _ h9 => h9) dX4_step_169 (fun z_231 ez_231 rz_231 => ?_)
                  have w_232 : z_223 = z_231 := k_228.trans ez_231.symm
                  subst w_232
                  refine pu_calli (runV (As := [.int z_223]) (rest := []) ⟨hx, hb, hml, hown, hts⟩ (t_X4_kindAt l D cy base τ G_224 a h_a z_223) sV_X4_226 hK (t_recv cf_2 hK hT h_a) ⟨Nat.le_trans hZ hS.1, hT⟩ ⟨Nat.le_of_ble_eq_true rfl, Nat.le_of_ble_eq_true rfl⟩ rfl hl.1 rfl (Nat.le_of_ble_eq_true rfl) dX4_step_172 ⟨Nat.le_of_ble_eq_true rfl, Nat.le_of_ble_eq_true rfl⟩) (fun r_233 hr_233 => ?_)
                  refine lv_aload_n hx hb dX4_step_175 rfl (lv_at hl 1 rfl) ?_
                  refine t_geti cf_2 hx hb hts hown hK hT h_a (k := 4) rfl fl_X4_33 (fun _ h9 => h9) dX4_step_176 (fun z_234 ez_234 rz_234 => ?_)
                  have w_235 : z_229 = z_234 := ez_229.trans ez_234.symm
                  subst w_235
                  refine lv_icmp_ne (tgt := 186) hx hb dX4_step_179 (by decide) (fun c_236 => ?_) (fun c_236 => ?_)
                  · skip
                    have tc_236 : ¬ r_233.toInt = z_229.toInt := fun h => c_236 ((fa_eq _ _).mpr h)
                    refine lv_iconst (v := 0) hx hb dX4_step_186 (by decide) ?_
                    refine lv_istore_n (lv' := [(1, .int 0), (0, .ref a)]) hx hb dX4_step_187 rfl hl (by decide) rfl (fun ls hl => ?_)
                    refine lv_goto (tgt := 90) hx hb dX4_step_188 (by decide) ?_
                    exact ih212 ((0 : Int32), z_223, G_224) _ _ _ (by show (ln.toInt - z_223.toInt).toNat < (ln.toInt - x212_sp.toInt).toNat; omega) ⟨(min_t z_223), (max_t z_223), (show f0 = G_224.1 a 0 from by first | exact k_225 | omega), (show ln = G_224.1 a 3 from by first | exact k_226 | omega), k_228, hF, hT, hS, lv_sub hl [0, 1] rfl⟩
                  · skip
                    have tc_236 : r_233.toInt = z_229.toInt := (fa_eq _ _).mp c_236
                    refine lv_iconst (v := 1) hx hb dX4_step_182 (by decide) ?_
                    refine lv_goto (tgt := 187) hx hb dX4_step_183 (by decide) ?_
                    refine lv_istore_n (lv' := [(1, .int 1), (0, .ref a)]) hx hb dX4_step_187 rfl hl (by decide) rfl (fun ls hl => ?_)
                    refine lv_goto (tgt := 90) hx hb dX4_step_188 (by decide) ?_
                    exact ih212 ((1 : Int32), z_223, G_224) _ _ _ (by show (ln.toInt - z_223.toInt).toNat < (ln.toInt - x212_sp.toInt).toNat; omega) ⟨(min_t z_223), (max_t z_223), (show f0 = G_224.1 a 0 from by first | exact k_225 | omega), (show ln = G_224.1 a 3 from by first | exact k_226 | omega), k_228, hF, hT, hS, lv_sub hl [0, 1] rfl⟩
                · skip
                  have tc_230 : ¬ z_229.toInt = 1 := fun h => c_230 ((fa_eq _ _).mpr h)
                  refine lv_aload_n hx hb dX4_step_159 rfl (lv_at hl 1 rfl) ?_
                  refine t_geti cf_2 hx hb hts hown hK hT h_a (k := 4) rfl fl_X4_33 (fun _ h9 => h9) dX4_step_160 (fun z_237 ez_237 rz_237 => ?_)
                  have w_238 : z_229 = z_237 := ez_229.trans ez_237.symm
                  subst w_238
                  refine lv_iconst (v := 2) hx hb dX4_step_163 (by decide) ?_
                  refine lv_icmp_ne (tgt := 186) hx hb dX4_step_164 (by decide) (fun c_239 => ?_) (fun c_239 => ?_)
                  · skip
                    have tc_239 : ¬ z_229.toInt = 2 := fun h => c_239 ((fa_eq _ _).mpr h)
                    refine lv_iconst (v := 0) hx hb dX4_step_186 (by decide) ?_
                    refine lv_istore_n (lv' := [(1, .int 0), (0, .ref a)]) hx hb dX4_step_187 rfl hl (by decide) rfl (fun ls hl => ?_)
                    refine lv_goto (tgt := 90) hx hb dX4_step_188 (by decide) ?_
                    exact ih212 ((0 : Int32), z_223, G_224) _ _ _ (by show (ln.toInt - z_223.toInt).toNat < (ln.toInt - x212_sp.toInt).toNat; omega) ⟨(min_t z_223), (max_t z_223), (show f0 = G_224.1 a 0 from by first | exact k_225 | omega), (show ln = G_224.1 a 3 from by first | exact k_226 | omega), k_228, hF, hT, hS, lv_sub hl [0, 1] rfl⟩
                  · skip
                    have tc_239 : z_229.toInt = 2 := (fa_eq _ _).mp c_239
                    refine lv_aload_n hx hb dX4_step_167 rfl (lv_at hl 1 rfl) ?_
                    refine lv_aload_n hx hb dX4_step_168 rfl (lv_at hl 1 rfl) ?_
                    refine t_geti cf_2 hx hb hts hown hK hT h_a (k := 6) rfl fl_X4_92 (fun _ h9 => h9) dX4_step_169 (fun z_240 ez_240 rz_240 => ?_)
                    have w_241 : z_223 = z_240 := k_228.trans ez_240.symm
                    subst w_241
                    refine pu_calli (runV (As := [.int z_223]) (rest := []) ⟨hx, hb, hml, hown, hts⟩ (t_X4_kindAt l D cy base τ G_224 a h_a z_223) sV_X4_226 hK (t_recv cf_2 hK hT h_a) ⟨Nat.le_trans hZ hS.1, hT⟩ ⟨Nat.le_of_ble_eq_true rfl, Nat.le_of_ble_eq_true rfl⟩ rfl hl.1 rfl (Nat.le_of_ble_eq_true rfl) dX4_step_172 ⟨Nat.le_of_ble_eq_true rfl, Nat.le_of_ble_eq_true rfl⟩) (fun r_242 hr_242 => ?_)
                    refine lv_aload_n hx hb dX4_step_175 rfl (lv_at hl 1 rfl) ?_
                    refine t_geti cf_2 hx hb hts hown hK hT h_a (k := 4) rfl fl_X4_33 (fun _ h9 => h9) dX4_step_176 (fun z_243 ez_243 rz_243 => ?_)
                    have w_244 : z_229 = z_243 := ez_229.trans ez_243.symm
                    subst w_244
                    refine lv_icmp_ne (tgt := 186) hx hb dX4_step_179 (by decide) (fun c_245 => ?_) (fun c_245 => ?_)
                    · skip
                      have tc_245 : ¬ r_242.toInt = z_229.toInt := fun h => c_245 ((fa_eq _ _).mpr h)
                      refine lv_iconst (v := 0) hx hb dX4_step_186 (by decide) ?_
                      refine lv_istore_n (lv' := [(1, .int 0), (0, .ref a)]) hx hb dX4_step_187 rfl hl (by decide) rfl (fun ls hl => ?_)
                      refine lv_goto (tgt := 90) hx hb dX4_step_188 (by decide) ?_
                      exact ih212 ((0 : Int32), z_223, G_224) _ _ _ (by show (ln.toInt - z_223.toInt).toNat < (ln.toInt - x212_sp.toInt).toNat; omega) ⟨(min_t z_223), (max_t z_223), (show f0 = G_224.1 a 0 from by first | exact k_225 | omega), (show ln = G_224.1 a 3 from by first | exact k_226 | omega), k_228, hF, hT, hS, lv_sub hl [0, 1] rfl⟩
                    · skip
                      have tc_245 : r_242.toInt = z_229.toInt := (fa_eq _ _).mp c_245
                      refine lv_iconst (v := 1) hx hb dX4_step_182 (by decide) ?_
                      refine lv_goto (tgt := 187) hx hb dX4_step_183 (by decide) ?_
                      refine lv_istore_n (lv' := [(1, .int 1), (0, .ref a)]) hx hb dX4_step_187 rfl hl (by decide) rfl (fun ls hl => ?_)
                      refine lv_goto (tgt := 90) hx hb dX4_step_188 (by decide) ?_
                      exact ih212 ((1 : Int32), z_223, G_224) _ _ _ (by show (ln.toInt - z_223.toInt).toNat < (ln.toInt - x212_sp.toInt).toNat; omega) ⟨(min_t z_223), (max_t z_223), (show f0 = G_224.1 a 0 from by first | exact k_225 | omega), (show ln = G_224.1 a 3 from by first | exact k_226 | omega), k_228, hF, hT, hS, lv_sub hl [0, 1] rfl⟩
              · skip
                have tc_220 : z_219.toInt = 2 := (fa_eq _ _).mp c_220
                refine lv_aload_n hx hb dX4_step_113 rfl (lv_at hl 1 rfl) ?_
                refine lv_ldc (v := 99999) hx hb hown (hts _ ki_X4_229) dX4_step_114 ?_
                refine lv_aload_n hx hb dX4_step_116 rfl (lv_at hl 1 rfl) ?_
                refine t_geti cf_2 hx hb hts hown hK hT h_a (k := 7) rfl fl_X4_197 (fun _ h9 => h9) dX4_step_117 (fun z_246 ez_246 rz_246 => ?_)
                have ez_246 : z_246 = G_212.1 a 7 := ez_246
                refine lv_bipush (v := 10) hx hb dX4_step_120 (by decide) ?_
                refine lv_imul hx hb dX4_step_122 ?_
                refine lv_topi (fun z_247 ez_247 => ?_)
                refine lv_aload_n hx hb dX4_step_123 rfl (lv_at hl 1 rfl) ?_
                refine lv_aload_n hx hb dX4_step_124 rfl (lv_at hl 1 rfl) ?_
                refine t_geti cf_2 hx hb hts hown hK hT h_a (k := 6) rfl fl_X4_92 (fun _ h9 => h9) dX4_step_125 (fun z_248 ez_248 rz_248 => ?_)
                have w_249 : x212_sp = z_248 := i212_4.trans ez_248.symm
                subst w_249
                refine pu_calli (runV (As := [.int x212_sp]) (rest := [.int z_247, .int 99999, .ref a]) ⟨hx, hb, hml, hown, hts⟩ (t_X4_signAt l D cy base τ G_212 a h_a x212_sp) sV_X4_218 hK (t_recv cf_2 hK hT h_a) ⟨Nat.le_trans hZ hS.1, hT⟩ ⟨Nat.le_of_ble_eq_true rfl, Nat.le_of_ble_eq_true rfl⟩ rfl hl.1 rfl (Nat.le_of_ble_eq_true rfl) dX4_step_128 ⟨Nat.le_of_ble_eq_true rfl, Nat.le_of_ble_eq_true rfl⟩) (fun r_250 hr_250 => ?_)
                refine lv_iadd hx hb dX4_step_131 ?_
                refine lv_topi (fun z_251 ez_251 => ?_)
                refine lv_bipush (v := 48) hx hb dX4_step_132 (by decide) ?_
                refine lv_isub hx hb dX4_step_134 ?_
                refine lv_topi (fun z_252 ez_252 => ?_)
                refine va_mmin hx hb (by rw [hml]; exact hl.1.symm) hown (hts _ ml_X4_86) (hts _ st_math_min) (hts _ ini_J9) (hts _ co_math_min) (Nat.le_of_ble_eq_true rfl) (Nat.le_of_ble_eq_true rfl) (Nat.le_of_ble_eq_true rfl) (Nat.le_of_ble_eq_true rfl) dX4_step_135 ?_
                refine lv_topi (fun z_253 ez_253 => ?_)
                have tz_253 : (99999 ≥ z_253.toInt ∧ z_252.toInt ≥ z_253.toInt ∧ (z_253.toInt = 99999 ∨ z_253.toInt = z_252.toInt)) := mmin_t ez_253
                refine t_puti (x := z_253) cf_2 hx hb hts hown hK hT hS h_a (k := 7) rfl trivial fl_X4_197 (fun _ h9 => h9) rfl rfl rfl dX4_step_138 (fun H locs G_254 eG_254 hT hS => ?_)
                have hF := hF.wI eG_254 h_a rfl
                have k_255 : f0 = G_254.1 a 0 := by rw [eG_254, wI_ne (Or.inr (by decide))]; exact i212_2
                have k_256 : ln = G_254.1 a 3 := by rw [eG_254, wI_ne (Or.inr (by decide))]; exact i212_3
                have k_257 : x212_sp = G_254.1 a 6 := by rw [eG_254, wI_ne (Or.inr (by decide))]; exact i212_4
                have k_259 : z_253 = G_254.1 a 7 := by rw [eG_254, wI_at]
                refine lv_aload_n hx hb dX4_step_141 rfl (lv_at hl 1 rfl) ?_
                refine lv_dup hx hb dX4_step_142 rfl ?_
                refine t_geti cf_2 hx hb hts hown hK hT h_a (k := 6) rfl fl_X4_92 (fun _ h9 => h9) dX4_step_143 (fun z_260 ez_260 rz_260 => ?_)
                have w_261 : x212_sp = z_260 := k_257.trans ez_260.symm
                subst w_261
                refine lv_iconst (v := 1) hx hb dX4_step_146 (by decide) ?_
                refine lv_iadd hx hb dX4_step_147 ?_
                refine lv_topi (fun z_262 ez_262 => ?_)
                have tz_262 : z_262.toInt = x212_sp.toInt + 1 := add_t ez_262 (show -2147483648 ≤ x212_sp.toInt + 1 by omega) (show x212_sp.toInt + 1 < 2147483648 by omega)
                refine t_puti (x := z_262) cf_2 hx hb hts hown hK hT hS h_a (k := 6) rfl trivial fl_X4_92 (fun _ h9 => h9) rfl rfl rfl dX4_step_148 (fun H locs G_263 eG_263 hT hS => ?_)
                have hF := hF.wI eG_263 h_a rfl
                have k_264 : f0 = G_263.1 a 0 := by rw [eG_263, wI_ne (Or.inr (by decide))]; exact k_255
                have k_265 : ln = G_263.1 a 3 := by rw [eG_263, wI_ne (Or.inr (by decide))]; exact k_256
                have k_267 : z_253 = G_263.1 a 7 := by rw [eG_263, wI_ne (Or.inr (by decide))]; exact k_259
                have k_268 : z_262 = G_263.1 a 6 := by rw [eG_263, wI_at]
                refine lv_aload_n hx hb dX4_step_151 rfl (lv_at hl 1 rfl) ?_
                refine t_geti cf_2 hx hb hts hown hK hT h_a (k := 4) rfl fl_X4_33 (fun _ h9 => h9) dX4_step_152 (fun z_269 ez_269 rz_269 => ?_)
                have ez_269 : z_269 = G_263.1 a 4 := ez_269
                refine lv_iconst (v := 1) hx hb dX4_step_155 (by decide) ?_
                refine lv_icmp_eq (tgt := 167) hx hb dX4_step_156 (by decide) (fun c_270 => ?_) (fun c_270 => ?_)
                · skip
                  have tc_270 : z_269.toInt = 1 := (fa_eq _ _).mp c_270
                  refine lv_aload_n hx hb dX4_step_167 rfl (lv_at hl 1 rfl) ?_
                  refine lv_aload_n hx hb dX4_step_168 rfl (lv_at hl 1 rfl) ?_
                  refine t_geti cf_2 hx hb hts hown hK hT h_a (k := 6) rfl fl_X4_92 (fun _ h9 => h9) dX4_step_169 (fun z_271 ez_271 rz_271 => ?_)
                  have w_272 : z_262 = z_271 := k_268.trans ez_271.symm
                  subst w_272
                  refine pu_calli (runV (As := [.int z_262]) (rest := []) ⟨hx, hb, hml, hown, hts⟩ (t_X4_kindAt l D cy base τ G_263 a h_a z_262) sV_X4_226 hK (t_recv cf_2 hK hT h_a) ⟨Nat.le_trans hZ hS.1, hT⟩ ⟨Nat.le_of_ble_eq_true rfl, Nat.le_of_ble_eq_true rfl⟩ rfl hl.1 rfl (Nat.le_of_ble_eq_true rfl) dX4_step_172 ⟨Nat.le_of_ble_eq_true rfl, Nat.le_of_ble_eq_true rfl⟩) (fun r_273 hr_273 => ?_)
                  refine lv_aload_n hx hb dX4_step_175 rfl (lv_at hl 1 rfl) ?_
                  refine t_geti cf_2 hx hb hts hown hK hT h_a (k := 4) rfl fl_X4_33 (fun _ h9 => h9) dX4_step_176 (fun z_274 ez_274 rz_274 => ?_)
                  have w_275 : z_269 = z_274 := ez_269.trans ez_274.symm
                  subst w_275
                  refine lv_icmp_ne (tgt := 186) hx hb dX4_step_179 (by decide) (fun c_276 => ?_) (fun c_276 => ?_)
                  · skip
                    have tc_276 : ¬ r_273.toInt = z_269.toInt := fun h => c_276 ((fa_eq _ _).mpr h)
                    refine lv_iconst (v := 0) hx hb dX4_step_186 (by decide) ?_
                    refine lv_istore_n (lv' := [(1, .int 0), (0, .ref a)]) hx hb dX4_step_187 rfl hl (by decide) rfl (fun ls hl => ?_)
                    refine lv_goto (tgt := 90) hx hb dX4_step_188 (by decide) ?_
                    exact ih212 ((0 : Int32), z_262, G_263) _ _ _ (by show (ln.toInt - z_262.toInt).toNat < (ln.toInt - x212_sp.toInt).toNat; omega) ⟨(min_t z_262), (max_t z_262), (show f0 = G_263.1 a 0 from by first | exact k_264 | omega), (show ln = G_263.1 a 3 from by first | exact k_265 | omega), k_268, hF, hT, hS, lv_sub hl [0, 1] rfl⟩
                  · skip
                    have tc_276 : r_273.toInt = z_269.toInt := (fa_eq _ _).mp c_276
                    refine lv_iconst (v := 1) hx hb dX4_step_182 (by decide) ?_
                    refine lv_goto (tgt := 187) hx hb dX4_step_183 (by decide) ?_
                    refine lv_istore_n (lv' := [(1, .int 1), (0, .ref a)]) hx hb dX4_step_187 rfl hl (by decide) rfl (fun ls hl => ?_)
                    refine lv_goto (tgt := 90) hx hb dX4_step_188 (by decide) ?_
                    exact ih212 ((1 : Int32), z_262, G_263) _ _ _ (by show (ln.toInt - z_262.toInt).toNat < (ln.toInt - x212_sp.toInt).toNat; omega) ⟨(min_t z_262), (max_t z_262), (show f0 = G_263.1 a 0 from by first | exact k_264 | omega), (show ln = G_263.1 a 3 from by first | exact k_265 | omega), k_268, hF, hT, hS, lv_sub hl [0, 1] rfl⟩
                · skip
                  have tc_270 : ¬ z_269.toInt = 1 := fun h => c_270 ((fa_eq _ _).mpr h)
                  refine lv_aload_n hx hb dX4_step_159 rfl (lv_at hl 1 rfl) ?_
                  refine t_geti cf_2 hx hb hts hown hK hT h_a (k := 4) rfl fl_X4_33 (fun _ h9 => h9) dX4_step_160 (fun z_277 ez_277 rz_277 => ?_)
                  have w_278 : z_269 = z_277 := ez_269.trans ez_277.symm
                  subst w_278
                  refine lv_iconst (v := 2) hx hb dX4_step_163 (by decide) ?_
                  refine lv_icmp_ne (tgt := 186) hx hb dX4_step_164 (by decide) (fun c_279 => ?_) (fun c_279 => ?_)
                  · skip
                    have tc_279 : ¬ z_269.toInt = 2 := fun h => c_279 ((fa_eq _ _).mpr h)
                    refine lv_iconst (v := 0) hx hb dX4_step_186 (by decide) ?_
                    refine lv_istore_n (lv' := [(1, .int 0), (0, .ref a)]) hx hb dX4_step_187 rfl hl (by decide) rfl (fun ls hl => ?_)
                    refine lv_goto (tgt := 90) hx hb dX4_step_188 (by decide) ?_
                    exact ih212 ((0 : Int32), z_262, G_263) _ _ _ (by show (ln.toInt - z_262.toInt).toNat < (ln.toInt - x212_sp.toInt).toNat; omega) ⟨(min_t z_262), (max_t z_262), (show f0 = G_263.1 a 0 from by first | exact k_264 | omega), (show ln = G_263.1 a 3 from by first | exact k_265 | omega), k_268, hF, hT, hS, lv_sub hl [0, 1] rfl⟩
                  · skip
                    have tc_279 : z_269.toInt = 2 := (fa_eq _ _).mp c_279
                    refine lv_aload_n hx hb dX4_step_167 rfl (lv_at hl 1 rfl) ?_
                    refine lv_aload_n hx hb dX4_step_168 rfl (lv_at hl 1 rfl) ?_
                    refine t_geti cf_2 hx hb hts hown hK hT h_a (k := 6) rfl fl_X4_92 (fun _ h9 => h9) dX4_step_169 (fun z_280 ez_280 rz_280 => ?_)
                    have w_281 : z_262 = z_280 := k_268.trans ez_280.symm
                    subst w_281
                    refine pu_calli (runV (As := [.int z_262]) (rest := []) ⟨hx, hb, hml, hown, hts⟩ (t_X4_kindAt l D cy base τ G_263 a h_a z_262) sV_X4_226 hK (t_recv cf_2 hK hT h_a) ⟨Nat.le_trans hZ hS.1, hT⟩ ⟨Nat.le_of_ble_eq_true rfl, Nat.le_of_ble_eq_true rfl⟩ rfl hl.1 rfl (Nat.le_of_ble_eq_true rfl) dX4_step_172 ⟨Nat.le_of_ble_eq_true rfl, Nat.le_of_ble_eq_true rfl⟩) (fun r_282 hr_282 => ?_)
                    refine lv_aload_n hx hb dX4_step_175 rfl (lv_at hl 1 rfl) ?_
                    refine t_geti cf_2 hx hb hts hown hK hT h_a (k := 4) rfl fl_X4_33 (fun _ h9 => h9) dX4_step_176 (fun z_283 ez_283 rz_283 => ?_)
                    have w_284 : z_269 = z_283 := ez_269.trans ez_283.symm
                    subst w_284
                    refine lv_icmp_ne (tgt := 186) hx hb dX4_step_179 (by decide) (fun c_285 => ?_) (fun c_285 => ?_)
                    · skip
                      have tc_285 : ¬ r_282.toInt = z_269.toInt := fun h => c_285 ((fa_eq _ _).mpr h)
                      refine lv_iconst (v := 0) hx hb dX4_step_186 (by decide) ?_
                      refine lv_istore_n (lv' := [(1, .int 0), (0, .ref a)]) hx hb dX4_step_187 rfl hl (by decide) rfl (fun ls hl => ?_)
                      refine lv_goto (tgt := 90) hx hb dX4_step_188 (by decide) ?_
                      exact ih212 ((0 : Int32), z_262, G_263) _ _ _ (by show (ln.toInt - z_262.toInt).toNat < (ln.toInt - x212_sp.toInt).toNat; omega) ⟨(min_t z_262), (max_t z_262), (show f0 = G_263.1 a 0 from by first | exact k_264 | omega), (show ln = G_263.1 a 3 from by first | exact k_265 | omega), k_268, hF, hT, hS, lv_sub hl [0, 1] rfl⟩
                    · skip
                      have tc_285 : r_282.toInt = z_269.toInt := (fa_eq _ _).mp c_285
                      refine lv_iconst (v := 1) hx hb dX4_step_182 (by decide) ?_
                      refine lv_goto (tgt := 187) hx hb dX4_step_183 (by decide) ?_
                      refine lv_istore_n (lv' := [(1, .int 1), (0, .ref a)]) hx hb dX4_step_187 rfl hl (by decide) rfl (fun ls hl => ?_)
                      refine lv_goto (tgt := 90) hx hb dX4_step_188 (by decide) ?_
                      exact ih212 ((1 : Int32), z_262, G_263) _ _ _ (by show (ln.toInt - z_262.toInt).toNat < (ln.toInt - x212_sp.toInt).toNat; omega) ⟨(min_t z_262), (max_t z_262), (show f0 = G_263.1 a 0 from by first | exact k_264 | omega), (show ln = G_263.1 a 3 from by first | exact k_265 | omega), k_268, hF, hT, hS, lv_sub hl [0, 1] rfl⟩
        · skip
          have tc_211 : ¬ z_210.toInt = 0 := fun h => c_211 ((fa_eq _ _).mpr h)
          refine lv_iconst (v := 1) hx hb dX4_step_84 (by decide) ?_
          refine lv_goto (tgt := 89) hx hb dX4_step_85 (by decide) ?_
          refine lv_istore_n (lv' := [(1, .int 1), (0, .ref a)]) hx hb dX4_step_89 rfl hl (by decide) rfl (fun ls hl => ?_)
          refine W.loop (σ := Int32 × Int32 × Gh) (fun w286 H locs ls => -2147483648 ≤ w286.2.1.toInt ∧ w286.2.1.toInt ≤ 2147483647 ∧ f0 = w286.2.2.1 a 0 ∧ ln = w286.2.2.1 a 3 ∧ w286.2.1 = w286.2.2.1 a 6 ∧ Fr τ [2] G w286.2.2 ∧ TY D cy base τ w286.2.2 H ∧ va_S (RA base) s.heap H locs ∧ lv_has ls 2 [(1, .int w286.1), (0, .ref a)]) (fun w286 => (ln.toInt - w286.2.1.toInt).toNat) ?_ ((1 : Int32), x10_st, G_204) _ _ _ ⟨(min_t x10_st), (max_t x10_st), (by show f0 = G_204.1 a 0; exact k_205), (by show ln = G_204.1 a 3; exact k_206), k_209, hF, hT, hS, lv_sub hl [0, 1] rfl⟩
          intro w286 H locs ls hI ih286
          obtain ⟨x286_1, x286_sp, G_286⟩ := w286
          obtain ⟨i286_0, i286_1, i286_2, i286_3, i286_4, hF, hT, hS, hl⟩ := hI
          have i286_0 : -2147483648 ≤ x286_sp.toInt := i286_0
          have i286_1 : x286_sp.toInt ≤ 2147483647 := i286_1
          have i286_2 : f0 = G_286.1 a 0 := i286_2
          have i286_3 : ln = G_286.1 a 3 := i286_3
          have i286_4 : x286_sp = G_286.1 a 6 := i286_4
          have hF : Fr τ [2] G G_286 := hF
          have hT : TY D cy base τ G_286 H := hT
          have hS : va_S (RA base) s.heap H locs := hS
          have hl : lv_has ls 2 [(1, .int x286_1), (0, .ref a)] := hl
          refine lv_iload_n hx hb dX4_step_90 rfl (lv_at hl 0 rfl) ?_
          refine lv_if_eq (tgt := 191) hx hb dX4_step_91 (by decide) (fun c_287 => ?_) (fun c_287 => ?_)
          · skip
            have tc_287 : x286_1.toInt = 0 := (fa_eq _ _).mp c_287
            exact ret_v hx hb hr hlocks ⟨⟨hS.1, hS.2.1⟩, G_286, hF, ⟨rfl, (i286_2.symm.trans e_f0)⟩, hT⟩ hS.2.2 (Nat.le_of_ble_eq_true rfl) (Nat.le_of_ble_eq_true rfl) dX4_step_191
          · skip
            have tc_287 : ¬ x286_1.toInt = 0 := fun h => c_287 ((fa_eq _ _).mpr h)
            refine lv_aload_n hx hb dX4_step_94 rfl (lv_at hl 1 rfl) ?_
            refine t_geti cf_2 hx hb hts hown hK hT h_a (k := 6) rfl fl_X4_92 (fun _ h9 => h9) dX4_step_95 (fun z_288 ez_288 rz_288 => ?_)
            have w_289 : x286_sp = z_288 := i286_4.trans ez_288.symm
            subst w_289
            refine lv_aload_n hx hb dX4_step_98 rfl (lv_at hl 1 rfl) ?_
            refine t_geti cf_2 hx hb hts hown hK hT h_a (k := 3) rfl fl_X4_30 (fun _ h9 => h9) dX4_step_99 (fun z_290 ez_290 rz_290 => ?_)
            have w_291 : ln = z_290 := i286_3.trans ez_290.symm
            subst w_291
            refine lv_icmp_ge (tgt := 191) hx hb dX4_step_102 (by decide) (fun c_292 => ?_) (fun c_292 => ?_)
            · skip
              have tc_292 : ln.toInt ≤ x286_sp.toInt := (fa_le _ _).mp c_292
              exact ret_v hx hb hr hlocks ⟨⟨hS.1, hS.2.1⟩, G_286, hF, ⟨rfl, (i286_2.symm.trans e_f0)⟩, hT⟩ hS.2.2 (Nat.le_of_ble_eq_true rfl) (Nat.le_of_ble_eq_true rfl) dX4_step_191
            · skip
              have tc_292 : ¬ ln.toInt ≤ x286_sp.toInt := fun h => c_292 ((fa_le _ _).mpr h)
              refine lv_aload_n hx hb dX4_step_105 rfl (lv_at hl 1 rfl) ?_
              refine t_geti cf_2 hx hb hts hown hK hT h_a (k := 4) rfl fl_X4_33 (fun _ h9 => h9) dX4_step_106 (fun z_293 ez_293 rz_293 => ?_)
              have ez_293 : z_293 = G_286.1 a 4 := ez_293
              refine lv_iconst (v := 2) hx hb dX4_step_109 (by decide) ?_
              refine lv_icmp_ne (tgt := 141) hx hb dX4_step_110 (by decide) (fun c_294 => ?_) (fun c_294 => ?_)
              · skip
                have tc_294 : ¬ z_293.toInt = 2 := fun h => c_294 ((fa_eq _ _).mpr h)
                refine lv_aload_n hx hb dX4_step_141 rfl (lv_at hl 1 rfl) ?_
                refine lv_dup hx hb dX4_step_142 rfl ?_
                refine t_geti cf_2 hx hb hts hown hK hT h_a (k := 6) rfl fl_X4_92 (fun _ h9 => h9) dX4_step_143 (fun z_295 ez_295 rz_295 => ?_)
                have w_296 : x286_sp = z_295 := i286_4.trans ez_295.symm
                subst w_296
                refine lv_iconst (v := 1) hx hb dX4_step_146 (by decide) ?_
                refine lv_iadd hx hb dX4_step_147 ?_
                refine lv_topi (fun z_297 ez_297 => ?_)
                have tz_297 : z_297.toInt = x286_sp.toInt + 1 := add_t ez_297 (show -2147483648 ≤ x286_sp.toInt + 1 by omega) (show x286_sp.toInt + 1 < 2147483648 by omega)
                refine t_puti (x := z_297) cf_2 hx hb hts hown hK hT hS h_a (k := 6) rfl trivial fl_X4_92 (fun _ h9 => h9) rfl rfl rfl dX4_step_148 (fun H locs G_298 eG_298 hT hS => ?_)
                have hF := hF.wI eG_298 h_a rfl
                have k_299 : f0 = G_298.1 a 0 := by rw [eG_298, wI_ne (Or.inr (by decide))]; exact i286_2
                have k_300 : ln = G_298.1 a 3 := by rw [eG_298, wI_ne (Or.inr (by decide))]; exact i286_3
                have k_302 : z_297 = G_298.1 a 6 := by rw [eG_298, wI_at]
                refine lv_aload_n hx hb dX4_step_151 rfl (lv_at hl 1 rfl) ?_
                refine t_geti cf_2 hx hb hts hown hK hT h_a (k := 4) rfl fl_X4_33 (fun _ h9 => h9) dX4_step_152 (fun z_303 ez_303 rz_303 => ?_)
                have ez_303 : z_303 = G_298.1 a 4 := ez_303
                refine lv_iconst (v := 1) hx hb dX4_step_155 (by decide) ?_
                refine lv_icmp_eq (tgt := 167) hx hb dX4_step_156 (by decide) (fun c_304 => ?_) (fun c_304 => ?_)
                · skip
                  have tc_304 : z_303.toInt = 1 := (fa_eq _ _).mp c_304
                  refine lv_aload_n hx hb dX4_step_167 rfl (lv_at hl 1 rfl) ?_
                  refine lv_aload_n hx hb dX4_step_168 rfl (lv_at hl 1 rfl) ?_
                  refine t_geti cf_2 hx hb hts hown hK hT h_a (k := 6) rfl fl_X4_92 (fun _ h9 => h9) dX4_step_169 (fun z_305 ez_305 rz_305 => ?_)
                  have w_306 : z_297 = z_305 := k_302.trans ez_305.symm
                  subst w_306
                  refine pu_calli (runV (As := [.int z_297]) (rest := []) ⟨hx, hb, hml, hown, hts⟩ (t_X4_kindAt l D cy base τ G_298 a h_a z_297) sV_X4_226 hK (t_recv cf_2 hK hT h_a) ⟨Nat.le_trans hZ hS.1, hT⟩ ⟨Nat.le_of_ble_eq_true rfl, Nat.le_of_ble_eq_true rfl⟩ rfl hl.1 rfl (Nat.le_of_ble_eq_true rfl) dX4_step_172 ⟨Nat.le_of_ble_eq_true rfl, Nat.le_of_ble_eq_true rfl⟩) (fun r_307 hr_307 => ?_)
                  refine lv_aload_n hx hb dX4_step_175 rfl (lv_at hl 1 rfl) ?_
                  refine t_geti cf_2 hx hb hts hown hK hT h_a (k := 4) rfl fl_X4_33 (fun _ h9 => h9) dX4_step_176 (fun z_308 ez_308 rz_308 => ?_)
                  have w_309 : z_303 = z_308 := ez_303.trans ez_308.symm
                  subst w_309
                  refine lv_icmp_ne (tgt := 186) hx hb dX4_step_179 (by decide) (fun c_310 => ?_) (fun c_310 => ?_)
                  · skip
                    have tc_310 : ¬ r_307.toInt = z_303.toInt := fun h => c_310 ((fa_eq _ _).mpr h)
                    refine lv_iconst (v := 0) hx hb dX4_step_186 (by decide) ?_
                    refine lv_istore_n (lv' := [(1, .int 0), (0, .ref a)]) hx hb dX4_step_187 rfl hl (by decide) rfl (fun ls hl => ?_)
                    refine lv_goto (tgt := 90) hx hb dX4_step_188 (by decide) ?_
                    exact ih286 ((0 : Int32), z_297, G_298) _ _ _ (by show (ln.toInt - z_297.toInt).toNat < (ln.toInt - x286_sp.toInt).toNat; omega) ⟨(min_t z_297), (max_t z_297), (show f0 = G_298.1 a 0 from by first | exact k_299 | omega), (show ln = G_298.1 a 3 from by first | exact k_300 | omega), k_302, hF, hT, hS, lv_sub hl [0, 1] rfl⟩
                  · skip
                    have tc_310 : r_307.toInt = z_303.toInt := (fa_eq _ _).mp c_310
                    refine lv_iconst (v := 1) hx hb dX4_step_182 (by decide) ?_
                    refine lv_goto (tgt := 187) hx hb dX4_step_183 (by decide) ?_
                    refine lv_istore_n (lv' := [(1, .int 1), (0, .ref a)]) hx hb dX4_step_187 rfl hl (by decide) rfl (fun ls hl => ?_)
                    refine lv_goto (tgt := 90) hx hb dX4_step_188 (by decide) ?_
                    exact ih286 ((1 : Int32), z_297, G_298) _ _ _ (by show (ln.toInt - z_297.toInt).toNat < (ln.toInt - x286_sp.toInt).toNat; omega) ⟨(min_t z_297), (max_t z_297), (show f0 = G_298.1 a 0 from by first | exact k_299 | omega), (show ln = G_298.1 a 3 from by first | exact k_300 | omega), k_302, hF, hT, hS, lv_sub hl [0, 1] rfl⟩
                · skip
                  have tc_304 : ¬ z_303.toInt = 1 := fun h => c_304 ((fa_eq _ _).mpr h)
                  refine lv_aload_n hx hb dX4_step_159 rfl (lv_at hl 1 rfl) ?_
                  refine t_geti cf_2 hx hb hts hown hK hT h_a (k := 4) rfl fl_X4_33 (fun _ h9 => h9) dX4_step_160 (fun z_311 ez_311 rz_311 => ?_)
                  have w_312 : z_303 = z_311 := ez_303.trans ez_311.symm
                  subst w_312
                  refine lv_iconst (v := 2) hx hb dX4_step_163 (by decide) ?_
                  refine lv_icmp_ne (tgt := 186) hx hb dX4_step_164 (by decide) (fun c_313 => ?_) (fun c_313 => ?_)
                  · skip
                    have tc_313 : ¬ z_303.toInt = 2 := fun h => c_313 ((fa_eq _ _).mpr h)
                    refine lv_iconst (v := 0) hx hb dX4_step_186 (by decide) ?_
                    refine lv_istore_n (lv' := [(1, .int 0), (0, .ref a)]) hx hb dX4_step_187 rfl hl (by decide) rfl (fun ls hl => ?_)
                    refine lv_goto (tgt := 90) hx hb dX4_step_188 (by decide) ?_
                    exact ih286 ((0 : Int32), z_297, G_298) _ _ _ (by show (ln.toInt - z_297.toInt).toNat < (ln.toInt - x286_sp.toInt).toNat; omega) ⟨(min_t z_297), (max_t z_297), (show f0 = G_298.1 a 0 from by first | exact k_299 | omega), (show ln = G_298.1 a 3 from by first | exact k_300 | omega), k_302, hF, hT, hS, lv_sub hl [0, 1] rfl⟩
                  · skip
                    have tc_313 : z_303.toInt = 2 := (fa_eq _ _).mp c_313
                    refine lv_aload_n hx hb dX4_step_167 rfl (lv_at hl 1 rfl) ?_
                    refine lv_aload_n hx hb dX4_step_168 rfl (lv_at hl 1 rfl) ?_
                    refine t_geti cf_2 hx hb hts hown hK hT h_a (k := 6) rfl fl_X4_92 (fun _ h9 => h9) dX4_step_169 (fun z_314 ez_314 rz_314 => ?_)
                    have w_315 : z_297 = z_314 := k_302.trans ez_314.symm
                    subst w_315
                    refine pu_calli (runV (As := [.int z_297]) (rest := []) ⟨hx, hb, hml, hown, hts⟩ (t_X4_kindAt l D cy base τ G_298 a h_a z_297) sV_X4_226 hK (t_recv cf_2 hK hT h_a) ⟨Nat.le_trans hZ hS.1, hT⟩ ⟨Nat.le_of_ble_eq_true rfl, Nat.le_of_ble_eq_true rfl⟩ rfl hl.1 rfl (Nat.le_of_ble_eq_true rfl) dX4_step_172 ⟨Nat.le_of_ble_eq_true rfl, Nat.le_of_ble_eq_true rfl⟩) (fun r_316 hr_316 => ?_)
                    refine lv_aload_n hx hb dX4_step_175 rfl (lv_at hl 1 rfl) ?_
                    refine t_geti cf_2 hx hb hts hown hK hT h_a (k := 4) rfl fl_X4_33 (fun _ h9 => h9) dX4_step_176 (fun z_317 ez_317 rz_317 => ?_)
                    have w_318 : z_303 = z_317 := ez_303.trans ez_317.symm
                    subst w_318
                    refine lv_icmp_ne (tgt := 186) hx hb dX4_step_179 (by decide) (fun c_319 => ?_) (fun c_319 => ?_)
                    · skip
                      have tc_319 : ¬ r_316.toInt = z_303.toInt := fun h => c_319 ((fa_eq _ _).mpr h)
                      refine lv_iconst (v := 0) hx hb dX4_step_186 (by decide) ?_
                      refine lv_istore_n (lv' := [(1, .int 0), (0, .ref a)]) hx hb dX4_step_187 rfl hl (by decide) rfl (fun ls hl => ?_)
                      refine lv_goto (tgt := 90) hx hb dX4_step_188 (by decide) ?_
                      exact ih286 ((0 : Int32), z_297, G_298) _ _ _ (by show (ln.toInt - z_297.toInt).toNat < (ln.toInt - x286_sp.toInt).toNat; omega) ⟨(min_t z_297), (max_t z_297), (show f0 = G_298.1 a 0 from by first | exact k_299 | omega), (show ln = G_298.1 a 3 from by first | exact k_300 | omega), k_302, hF, hT, hS, lv_sub hl [0, 1] rfl⟩
                    · skip
                      have tc_319 : r_316.toInt = z_303.toInt := (fa_eq _ _).mp c_319
                      refine lv_iconst (v := 1) hx hb dX4_step_182 (by decide) ?_
                      refine lv_goto (tgt := 187) hx hb dX4_step_183 (by decide) ?_
                      refine lv_istore_n (lv' := [(1, .int 1), (0, .ref a)]) hx hb dX4_step_187 rfl hl (by decide) rfl (fun ls hl => ?_)
                      refine lv_goto (tgt := 90) hx hb dX4_step_188 (by decide) ?_
                      exact ih286 ((1 : Int32), z_297, G_298) _ _ _ (by show (ln.toInt - z_297.toInt).toNat < (ln.toInt - x286_sp.toInt).toNat; omega) ⟨(min_t z_297), (max_t z_297), (show f0 = G_298.1 a 0 from by first | exact k_299 | omega), (show ln = G_298.1 a 3 from by first | exact k_300 | omega), k_302, hF, hT, hS, lv_sub hl [0, 1] rfl⟩
              · skip
                have tc_294 : z_293.toInt = 2 := (fa_eq _ _).mp c_294
                refine lv_aload_n hx hb dX4_step_113 rfl (lv_at hl 1 rfl) ?_
                refine lv_ldc (v := 99999) hx hb hown (hts _ ki_X4_229) dX4_step_114 ?_
                refine lv_aload_n hx hb dX4_step_116 rfl (lv_at hl 1 rfl) ?_
                refine t_geti cf_2 hx hb hts hown hK hT h_a (k := 7) rfl fl_X4_197 (fun _ h9 => h9) dX4_step_117 (fun z_320 ez_320 rz_320 => ?_)
                have ez_320 : z_320 = G_286.1 a 7 := ez_320
                refine lv_bipush (v := 10) hx hb dX4_step_120 (by decide) ?_
                refine lv_imul hx hb dX4_step_122 ?_
                refine lv_topi (fun z_321 ez_321 => ?_)
                refine lv_aload_n hx hb dX4_step_123 rfl (lv_at hl 1 rfl) ?_
                refine lv_aload_n hx hb dX4_step_124 rfl (lv_at hl 1 rfl) ?_
                refine t_geti cf_2 hx hb hts hown hK hT h_a (k := 6) rfl fl_X4_92 (fun _ h9 => h9) dX4_step_125 (fun z_322 ez_322 rz_322 => ?_)
                have w_323 : x286_sp = z_322 := i286_4.trans ez_322.symm
                subst w_323
                refine pu_calli (runV (As := [.int x286_sp]) (rest := [.int z_321, .int 99999, .ref a]) ⟨hx, hb, hml, hown, hts⟩ (t_X4_signAt l D cy base τ G_286 a h_a x286_sp) sV_X4_218 hK (t_recv cf_2 hK hT h_a) ⟨Nat.le_trans hZ hS.1, hT⟩ ⟨Nat.le_of_ble_eq_true rfl, Nat.le_of_ble_eq_true rfl⟩ rfl hl.1 rfl (Nat.le_of_ble_eq_true rfl) dX4_step_128 ⟨Nat.le_of_ble_eq_true rfl, Nat.le_of_ble_eq_true rfl⟩) (fun r_324 hr_324 => ?_)
                refine lv_iadd hx hb dX4_step_131 ?_
                refine lv_topi (fun z_325 ez_325 => ?_)
                refine lv_bipush (v := 48) hx hb dX4_step_132 (by decide) ?_
                refine lv_isub hx hb dX4_step_134 ?_
                refine lv_topi (fun z_326 ez_326 => ?_)
                refine va_mmin hx hb (by rw [hml]; exact hl.1.symm) hown (hts _ ml_X4_86) (hts _ st_math_min) (hts _ ini_J9) (hts _ co_math_min) (Nat.le_of_ble_eq_true rfl) (Nat.le_of_ble_eq_true rfl) (Nat.le_of_ble_eq_true rfl) (Nat.le_of_ble_eq_true rfl) dX4_step_135 ?_
                refine lv_topi (fun z_327 ez_327 => ?_)
                have tz_327 : (99999 ≥ z_327.toInt ∧ z_326.toInt ≥ z_327.toInt ∧ (z_327.toInt = 99999 ∨ z_327.toInt = z_326.toInt)) := mmin_t ez_327
                refine t_puti (x := z_327) cf_2 hx hb hts hown hK hT hS h_a (k := 7) rfl trivial fl_X4_197 (fun _ h9 => h9) rfl rfl rfl dX4_step_138 (fun H locs G_328 eG_328 hT hS => ?_)
                have hF := hF.wI eG_328 h_a rfl
                have k_329 : f0 = G_328.1 a 0 := by rw [eG_328, wI_ne (Or.inr (by decide))]; exact i286_2
                have k_330 : ln = G_328.1 a 3 := by rw [eG_328, wI_ne (Or.inr (by decide))]; exact i286_3
                have k_331 : x286_sp = G_328.1 a 6 := by rw [eG_328, wI_ne (Or.inr (by decide))]; exact i286_4
                have k_333 : z_327 = G_328.1 a 7 := by rw [eG_328, wI_at]
                refine lv_aload_n hx hb dX4_step_141 rfl (lv_at hl 1 rfl) ?_
                refine lv_dup hx hb dX4_step_142 rfl ?_
                refine t_geti cf_2 hx hb hts hown hK hT h_a (k := 6) rfl fl_X4_92 (fun _ h9 => h9) dX4_step_143 (fun z_334 ez_334 rz_334 => ?_)
                have w_335 : x286_sp = z_334 := k_331.trans ez_334.symm
                subst w_335
                refine lv_iconst (v := 1) hx hb dX4_step_146 (by decide) ?_
                refine lv_iadd hx hb dX4_step_147 ?_
                refine lv_topi (fun z_336 ez_336 => ?_)
                have tz_336 : z_336.toInt = x286_sp.toInt + 1 := add_t ez_336 (show -2147483648 ≤ x286_sp.toInt + 1 by omega) (show x286_sp.toInt + 1 < 2147483648 by omega)
                refine t_puti (x := z_336) cf_2 hx hb hts hown hK hT hS h_a (k := 6) rfl trivial fl_X4_92 (fun _ h9 => h9) rfl rfl rfl dX4_step_148 (fun H locs G_337 eG_337 hT hS => ?_)
                have hF := hF.wI eG_337 h_a rfl
                have k_338 : f0 = G_337.1 a 0 := by rw [eG_337, wI_ne (Or.inr (by decide))]; exact k_329
                have k_339 : ln = G_337.1 a 3 := by rw [eG_337, wI_ne (Or.inr (by decide))]; exact k_330
                have k_341 : z_327 = G_337.1 a 7 := by rw [eG_337, wI_ne (Or.inr (by decide))]; exact k_333
                have k_342 : z_336 = G_337.1 a 6 := by rw [eG_337, wI_at]
                refine lv_aload_n hx hb dX4_step_151 rfl (lv_at hl 1 rfl) ?_
                refine t_geti cf_2 hx hb hts hown hK hT h_a (k := 4) rfl fl_X4_33 (fun _ h9 => h9) dX4_step_152 (fun z_343 ez_343 rz_343 => ?_)
                have ez_343 : z_343 = G_337.1 a 4 := ez_343
                refine lv_iconst (v := 1) hx hb dX4_step_155 (by decide) ?_
                refine lv_icmp_eq (tgt := 167) hx hb dX4_step_156 (by decide) (fun c_344 => ?_) (fun c_344 => ?_)
                · skip
                  have tc_344 : z_343.toInt = 1 := (fa_eq _ _).mp c_344
                  refine lv_aload_n hx hb dX4_step_167 rfl (lv_at hl 1 rfl) ?_
                  refine lv_aload_n hx hb dX4_step_168 rfl (lv_at hl 1 rfl) ?_
                  refine t_geti cf_2 hx hb hts hown hK hT h_a (k := 6) rfl fl_X4_92 (fun _ h9 => h9) dX4_step_169 (fun z_345 ez_345 rz_345 => ?_)
                  have w_346 : z_336 = z_345 := k_342.trans ez_345.symm
                  subst w_346
                  refine pu_calli (runV (As := [.int z_336]) (rest := []) ⟨hx, hb, hml, hown, hts⟩ (t_X4_kindAt l D cy base τ G_337 a h_a z_336) sV_X4_226 hK (t_recv cf_2 hK hT h_a) ⟨Nat.le_trans hZ hS.1, hT⟩ ⟨Nat.le_of_ble_eq_true rfl, Nat.le_of_ble_eq_true rfl⟩ rfl hl.1 rfl (Nat.le_of_ble_eq_true rfl) dX4_step_172 ⟨Nat.le_of_ble_eq_true rfl, Nat.le_of_ble_eq_true rfl⟩) (fun r_347 hr_347 => ?_)
                  refine lv_aload_n hx hb dX4_step_175 rfl (lv_at hl 1 rfl) ?_
                  refine t_geti cf_2 hx hb hts hown hK hT h_a (k := 4) rfl fl_X4_33 (fun _ h9 => h9) dX4_step_176 (fun z_348 ez_348 rz_348 => ?_)
                  have w_349 : z_343 = z_348 := ez_343.trans ez_348.symm
                  subst w_349
                  refine lv_icmp_ne (tgt := 186) hx hb dX4_step_179 (by decide) (fun c_350 => ?_) (fun c_350 => ?_)
                  · skip
                    have tc_350 : ¬ r_347.toInt = z_343.toInt := fun h => c_350 ((fa_eq _ _).mpr h)
                    refine lv_iconst (v := 0) hx hb dX4_step_186 (by decide) ?_
                    refine lv_istore_n (lv' := [(1, .int 0), (0, .ref a)]) hx hb dX4_step_187 rfl hl (by decide) rfl (fun ls hl => ?_)
                    refine lv_goto (tgt := 90) hx hb dX4_step_188 (by decide) ?_
                    exact ih286 ((0 : Int32), z_336, G_337) _ _ _ (by show (ln.toInt - z_336.toInt).toNat < (ln.toInt - x286_sp.toInt).toNat; omega) ⟨(min_t z_336), (max_t z_336), (show f0 = G_337.1 a 0 from by first | exact k_338 | omega), (show ln = G_337.1 a 3 from by first | exact k_339 | omega), k_342, hF, hT, hS, lv_sub hl [0, 1] rfl⟩
                  · skip
                    have tc_350 : r_347.toInt = z_343.toInt := (fa_eq _ _).mp c_350
                    refine lv_iconst (v := 1) hx hb dX4_step_182 (by decide) ?_
                    refine lv_goto (tgt := 187) hx hb dX4_step_183 (by decide) ?_
                    refine lv_istore_n (lv' := [(1, .int 1), (0, .ref a)]) hx hb dX4_step_187 rfl hl (by decide) rfl (fun ls hl => ?_)
                    refine lv_goto (tgt := 90) hx hb dX4_step_188 (by decide) ?_
                    exact ih286 ((1 : Int32), z_336, G_337) _ _ _ (by show (ln.toInt - z_336.toInt).toNat < (ln.toInt - x286_sp.toInt).toNat; omega) ⟨(min_t z_336), (max_t z_336), (show f0 = G_337.1 a 0 from by first | exact k_338 | omega), (show ln = G_337.1 a 3 from by first | exact k_339 | omega), k_342, hF, hT, hS, lv_sub hl [0, 1] rfl⟩
                · skip
                  have tc_344 : ¬ z_343.toInt = 1 := fun h => c_344 ((fa_eq _ _).mpr h)
                  refine lv_aload_n hx hb dX4_step_159 rfl (lv_at hl 1 rfl) ?_
                  refine t_geti cf_2 hx hb hts hown hK hT h_a (k := 4) rfl fl_X4_33 (fun _ h9 => h9) dX4_step_160 (fun z_351 ez_351 rz_351 => ?_)
                  have w_352 : z_343 = z_351 := ez_343.trans ez_351.symm
                  subst w_352
                  refine lv_iconst (v := 2) hx hb dX4_step_163 (by decide) ?_
                  refine lv_icmp_ne (tgt := 186) hx hb dX4_step_164 (by decide) (fun c_353 => ?_) (fun c_353 => ?_)
                  · skip
                    have tc_353 : ¬ z_343.toInt = 2 := fun h => c_353 ((fa_eq _ _).mpr h)
                    refine lv_iconst (v := 0) hx hb dX4_step_186 (by decide) ?_
                    refine lv_istore_n (lv' := [(1, .int 0), (0, .ref a)]) hx hb dX4_step_187 rfl hl (by decide) rfl (fun ls hl => ?_)
                    refine lv_goto (tgt := 90) hx hb dX4_step_188 (by decide) ?_
                    exact ih286 ((0 : Int32), z_336, G_337) _ _ _ (by show (ln.toInt - z_336.toInt).toNat < (ln.toInt - x286_sp.toInt).toNat; omega) ⟨(min_t z_336), (max_t z_336), (show f0 = G_337.1 a 0 from by first | exact k_338 | omega), (show ln = G_337.1 a 3 from by first | exact k_339 | omega), k_342, hF, hT, hS, lv_sub hl [0, 1] rfl⟩
                  · skip
                    have tc_353 : z_343.toInt = 2 := (fa_eq _ _).mp c_353
                    refine lv_aload_n hx hb dX4_step_167 rfl (lv_at hl 1 rfl) ?_
                    refine lv_aload_n hx hb dX4_step_168 rfl (lv_at hl 1 rfl) ?_
                    refine t_geti cf_2 hx hb hts hown hK hT h_a (k := 6) rfl fl_X4_92 (fun _ h9 => h9) dX4_step_169 (fun z_354 ez_354 rz_354 => ?_)
                    have w_355 : z_336 = z_354 := k_342.trans ez_354.symm
                    subst w_355
                    refine pu_calli (runV (As := [.int z_336]) (rest := []) ⟨hx, hb, hml, hown, hts⟩ (t_X4_kindAt l D cy base τ G_337 a h_a z_336) sV_X4_226 hK (t_recv cf_2 hK hT h_a) ⟨Nat.le_trans hZ hS.1, hT⟩ ⟨Nat.le_of_ble_eq_true rfl, Nat.le_of_ble_eq_true rfl⟩ rfl hl.1 rfl (Nat.le_of_ble_eq_true rfl) dX4_step_172 ⟨Nat.le_of_ble_eq_true rfl, Nat.le_of_ble_eq_true rfl⟩) (fun r_356 hr_356 => ?_)
                    refine lv_aload_n hx hb dX4_step_175 rfl (lv_at hl 1 rfl) ?_
                    refine t_geti cf_2 hx hb hts hown hK hT h_a (k := 4) rfl fl_X4_33 (fun _ h9 => h9) dX4_step_176 (fun z_357 ez_357 rz_357 => ?_)
                    have w_358 : z_343 = z_357 := ez_343.trans ez_357.symm
                    subst w_358
                    refine lv_icmp_ne (tgt := 186) hx hb dX4_step_179 (by decide) (fun c_359 => ?_) (fun c_359 => ?_)
                    · skip
                      have tc_359 : ¬ r_356.toInt = z_343.toInt := fun h => c_359 ((fa_eq _ _).mpr h)
                      refine lv_iconst (v := 0) hx hb dX4_step_186 (by decide) ?_
                      refine lv_istore_n (lv' := [(1, .int 0), (0, .ref a)]) hx hb dX4_step_187 rfl hl (by decide) rfl (fun ls hl => ?_)
                      refine lv_goto (tgt := 90) hx hb dX4_step_188 (by decide) ?_
                      exact ih286 ((0 : Int32), z_336, G_337) _ _ _ (by show (ln.toInt - z_336.toInt).toNat < (ln.toInt - x286_sp.toInt).toNat; omega) ⟨(min_t z_336), (max_t z_336), (show f0 = G_337.1 a 0 from by first | exact k_338 | omega), (show ln = G_337.1 a 3 from by first | exact k_339 | omega), k_342, hF, hT, hS, lv_sub hl [0, 1] rfl⟩
                    · skip
                      have tc_359 : r_356.toInt = z_343.toInt := (fa_eq _ _).mp c_359
                      refine lv_iconst (v := 1) hx hb dX4_step_182 (by decide) ?_
                      refine lv_goto (tgt := 187) hx hb dX4_step_183 (by decide) ?_
                      refine lv_istore_n (lv' := [(1, .int 1), (0, .ref a)]) hx hb dX4_step_187 rfl hl (by decide) rfl (fun ls hl => ?_)
                      refine lv_goto (tgt := 90) hx hb dX4_step_188 (by decide) ?_
                      exact ih286 ((1 : Int32), z_336, G_337) _ _ _ (by show (ln.toInt - z_336.toInt).toNat < (ln.toInt - x286_sp.toInt).toNat; omega) ⟨(min_t z_336), (max_t z_336), (show f0 = G_337.1 a 0 from by first | exact k_338 | omega), (show ln = G_337.1 a 3 from by first | exact k_339 | omega), k_342, hF, hT, hS, lv_sub hl [0, 1] rfl⟩
      · skip
        have tc_189 : r_188.toInt = 4 := (fa_eq _ _).mp c_189
        refine lv_aload_n hx hb dX4_step_39 rfl (lv_at hl 0 rfl) ?_
        refine lv_dup hx hb dX4_step_40 rfl ?_
        refine t_geti cf_2 hx hb hts hown hK hT h_a (k := 5) rfl fl_X4_210 (fun _ h9 => h9) dX4_step_41 (fun z_360 ez_360 rz_360 => ?_)
        have w_361 : x10_st = z_360 := i10_4.trans ez_360.symm
        subst w_361
        refine lv_iconst (v := 1) hx hb dX4_step_44 (by decide) ?_
        refine lv_iadd hx hb dX4_step_45 ?_
        refine lv_topi (fun z_362 ez_362 => ?_)
        have tz_362 : z_362.toInt = x10_st.toInt + 1 := add_t ez_362 (show -2147483648 ≤ x10_st.toInt + 1 by omega) (show x10_st.toInt + 1 < 2147483648 by omega)
        refine t_puti (x := z_362) cf_2 hx hb hts hown hK hT hS h_a (k := 5) rfl trivial fl_X4_210 (fun _ h9 => h9) rfl rfl rfl dX4_step_46 (fun H locs G_363 eG_363 hT hS => ?_)
        have hF := hF.wI eG_363 h_a rfl
        have k_364 : f0 = G_363.1 a 0 := by rw [eG_363, wI_ne (Or.inr (by decide))]; exact i10_2
        have k_365 : ln = G_363.1 a 3 := by rw [eG_363, wI_ne (Or.inr (by decide))]; exact i10_3
        have k_367 : z_362 = G_363.1 a 5 := by rw [eG_363, wI_at]
        refine lv_goto (tgt := 16) hx hb dX4_step_49 (by decide) ?_
        exact ih10 (z_362, G_363) _ _ _ (by show (ln.toInt - z_362.toInt).toNat < (ln.toInt - x10_st.toInt).toNat; omega) ⟨(min_t z_362), (max_t z_362), (show f0 = G_363.1 a 0 from by first | exact k_364 | omega), (show ln = G_363.1 a 3 from by first | exact k_365 | omega), k_367, hF, hT, hS, lv_sub hl [0] rfl⟩
  · skip
    have tc_3 : ¬ f0.toInt = 0 := fun h => c_3 ((fa_eq _ _).mpr h)
    exact ret_v hx hb hr hlocks ⟨⟨hS.1, hS.2.1⟩, G, hF, ⟨rfl, rfl⟩, hT⟩ hS.2.2 (Nat.le_of_ble_eq_true rfl) (Nat.le_of_ble_eq_true rfl) dX4_step_7
set_option maxHeartbeats 4000000 in
set_option maxRecDepth 100000 in
theorem t_X4_takeNumber (l : Launch) (D : va_G) (cy : Nat → ClassId) (base : Nat) (τ : Nat → Nat) (G : Gh) (a : Nat) (h_a : τ a = 2) (lo : Int32) (hi : Int32) : MM l yX4_takeNumber cX4_takeNumber 4 (some .int) 2 0 0 D cy [.ref a, .int lo, .int hi] (PT D cy base τ G) (QT D cy base τ G [2] (fun v g => ∃ r : Int32, v = some (.int r) ∧ ((r.toInt = lo.toInt ∨ (lo.toInt ≤ r.toInt ∧ r.toInt ≤ hi.toInt))))) (RA base) := by
  refine MM.of (by decide) (Nat.le_of_ble_eq_true rfl) ?_
  intro p e s m below meth c C hPT ls hl
  obtain ⟨hx, hb, hr, hml, hown, hts, hlocks, hK, hnm⟩ := C
  obtain ⟨hZ, hT⟩ := hPT
  have hS : va_S (RA base) s.heap s.heap [] := va_S.rf
  have hF : Fr τ [2] G G := Fr.rf
  have hl : lv_has ls 4 [(0, .ref a), (1, .int lo), (2, .int hi)] := hl
  refine lv_aload_n hx hb dX4_takeNumber_0 rfl (lv_at hl 0 rfl) ?_
  refine t_geti cf_2 hx hb hts hown hK hT h_a (k := 4) rfl fl_X4_33 (fun _ h9 => h9) dX4_takeNumber_1 (fun z_1 ez_1 rz_1 => ?_)
  have ez_1 : z_1 = G.1 a 4 := ez_1
  refine lv_iconst (v := 2) hx hb dX4_takeNumber_4 (by decide) ?_
  refine lv_icmp_eq (tgt := 16) hx hb dX4_takeNumber_5 (by decide) (fun c_2 => ?_) (fun c_2 => ?_)
  · skip
    have tc_2 : z_1.toInt = 2 := (fa_eq _ _).mp c_2
    refine lv_aload_n hx hb dX4_takeNumber_16 rfl (lv_at hl 0 rfl) ?_
    refine t_geti cf_2 hx hb hts hown hK hT h_a (k := 7) rfl fl_X4_197 (fun _ h9 => h9) dX4_takeNumber_17 (fun z_3 ez_3 rz_3 => ?_)
    have ez_3 : z_3 = G.1 a 7 := ez_3
    refine lv_iload_n hx hb dX4_takeNumber_20 rfl (lv_at hl 1 rfl) ?_
    refine lv_icmp_lt (tgt := 32) hx hb dX4_takeNumber_21 (by decide) (fun c_4 => ?_) (fun c_4 => ?_)
    · skip
      have tc_4 : z_3.toInt < lo.toInt := (fa_lt _ _).mp c_4
      have mc_4 : lo.toInt ≤ 2147483647 := max_t lo
      refine lv_aload_n hx hb dX4_takeNumber_32 rfl (lv_at hl 0 rfl) ?_
      refine lv_iconst (v := 2) hx hb dX4_takeNumber_33 (by decide) ?_
      obtain ⟨z_5, ez_5⟩ : ∃ y : Int32, y = G.1 a 0 := ⟨_, rfl⟩
      refine t_callv (runV (As := [.int 2]) (rest := []) ⟨hx, hb, hml, hown, hts⟩ (t_X4_refuse l D cy base τ G a h_a 2 (by decide) z_5 ez_5) sV_X4_79 hK (t_recv cf_2 hK hT h_a) ⟨Nat.le_trans hZ hS.1, hT⟩ ⟨Nat.le_of_ble_eq_true rfl, Nat.le_of_ble_eq_true rfl⟩ rfl hl.1 rfl (Nat.le_of_ble_eq_true rfl) dX4_takeNumber_34 ⟨Nat.le_of_ble_eq_true rfl, Nat.le_of_ble_eq_true rfl⟩) hS (fun G_6 H locs hF_6 hr_6 hT hS => ?_)
      have hF := hF.tr hF_6 rfl
      have hr_6_p0 := hr_6
      obtain ⟨z_9, ez_9, hr_6_p0⟩ : ∃ z_9 : Int32, z_9 = G_6.1 a 0 ∧ (z_9.toInt ≠ 0) := ⟨_, rfl, hr_6_p0⟩
      refine lv_aload_n hx hb dX4_takeNumber_37 rfl (lv_at hl 0 rfl) ?_
      refine t_geti cf_2 hx hb hts hown hK hT h_a (k := 7) rfl fl_X4_197 (fun _ h9 => h9) dX4_takeNumber_38 (fun z_10 ez_10 rz_10 => ?_)
      have ez_10 : z_10 = G_6.1 a 7 := ez_10
      refine lv_istore_n (lv' := [(3, .int z_10), (0, .ref a), (1, .int lo), (2, .int hi)]) hx hb dX4_takeNumber_41 rfl hl (by decide) rfl (fun ls hl => ?_)
      refine lv_aload_n hx hb dX4_takeNumber_42 rfl (lv_at hl 1 rfl) ?_
      obtain ⟨z_11, ez_11⟩ : ∃ y : Int32, y = G_6.1 a 3 := ⟨_, rfl⟩
      have rz_11 : 0 ≤ z_11.toInt ∧ z_11.toInt ≤ 1600 := by rw [ez_11]; exact hT.rgi h_a (by decide) 3
      refine t_callv (runV (As := []) (rest := []) ⟨hx, hb, hml, hown, hts⟩ (t_X4_step l D cy base τ G_6 a h_a z_9 ez_9 z_11 ez_11) sV_X4_105 hK (t_recv cf_2 hK hT h_a) ⟨Nat.le_trans hZ hS.1, hT⟩ ⟨Nat.le_of_ble_eq_true rfl, Nat.le_of_ble_eq_true rfl⟩ rfl hl.1 rfl (Nat.le_of_ble_eq_true rfl) dX4_takeNumber_43 ⟨Nat.le_of_ble_eq_true rfl, Nat.le_of_ble_eq_true rfl⟩) hS (fun G_12 H locs hF_12 hr_12 hT hS => ?_)
      have hF := hF.tr hF_12 rfl
      have hr_12_s0 := hr_12
      have k_16 : z_9 = G_12.1 a 0 := ez_9.trans hr_12_s0.symm
      refine lv_aload_n hx hb dX4_takeNumber_46 rfl (lv_at hl 1 rfl) ?_
      refine t_geti cf_2 hx hb hts hown hK hT h_a (k := 0) rfl fl_X4_36 (fun _ h9 => h9) dX4_takeNumber_47 (fun z_17 ez_17 rz_17 => ?_)
      have w_18 : z_9 = z_17 := k_16.trans ez_17.symm
      subst w_18
      refine lv_if_ne (tgt := 57) hx hb dX4_takeNumber_50 (by decide) (fun c_19 => ?_) (fun c_19 => ?_)
      · skip
        have tc_19 : ¬ z_9.toInt = 0 := fun h => c_19 ((fa_eq _ _).mpr h)
        refine lv_iload_n hx hb dX4_takeNumber_57 rfl (lv_at hl 2 rfl) ?_
        exact ret_i hx hb hr hlocks ⟨⟨hS.1, hS.2.1⟩, G_12, hF, ⟨_, rfl, (by show lo.toInt = lo.toInt ∨ (lo.toInt ≤ lo.toInt ∧ lo.toInt ≤ hi.toInt); first | omega | assumption)⟩, hT⟩ hS.2.2 (Nat.le_of_ble_eq_true rfl) (Nat.le_of_ble_eq_true rfl) dX4_takeNumber_58
      · skip
        have tc_19 : z_9.toInt = 0 := (fa_eq _ _).mp c_19
        refine lv_iload_n hx hb dX4_takeNumber_53 rfl (lv_at hl 0 rfl) ?_
        refine lv_goto (tgt := 58) hx hb dX4_takeNumber_54 (by decide) ?_
        exact ret_i hx hb hr hlocks ⟨⟨hS.1, hS.2.1⟩, G_12, hF, ⟨_, rfl, (by show z_10.toInt = lo.toInt ∨ (lo.toInt ≤ z_10.toInt ∧ z_10.toInt ≤ hi.toInt); first | omega | assumption)⟩, hT⟩ hS.2.2 (Nat.le_of_ble_eq_true rfl) (Nat.le_of_ble_eq_true rfl) dX4_takeNumber_58
    · skip
      have tc_4 : ¬ z_3.toInt < lo.toInt := fun h => c_4 ((fa_lt _ _).mpr h)
      refine lv_aload_n hx hb dX4_takeNumber_24 rfl (lv_at hl 0 rfl) ?_
      refine t_geti cf_2 hx hb hts hown hK hT h_a (k := 7) rfl fl_X4_197 (fun _ h9 => h9) dX4_takeNumber_25 (fun z_20 ez_20 rz_20 => ?_)
      have w_21 : z_3 = z_20 := ez_3.trans ez_20.symm
      subst w_21
      refine lv_iload_n hx hb dX4_takeNumber_28 rfl (lv_at hl 2 rfl) ?_
      refine lv_icmp_le (tgt := 37) hx hb dX4_takeNumber_29 (by decide) (fun c_22 => ?_) (fun c_22 => ?_)
      · skip
        have tc_22 : z_3.toInt ≤ hi.toInt := (fa_le _ _).mp c_22
        refine lv_aload_n hx hb dX4_takeNumber_37 rfl (lv_at hl 0 rfl) ?_
        refine t_geti cf_2 hx hb hts hown hK hT h_a (k := 7) rfl fl_X4_197 (fun _ h9 => h9) dX4_takeNumber_38 (fun z_23 ez_23 rz_23 => ?_)
        have w_24 : z_3 = z_23 := ez_3.trans ez_23.symm
        subst w_24
        refine lv_istore_n (lv' := [(3, .int z_3), (0, .ref a), (1, .int lo), (2, .int hi)]) hx hb dX4_takeNumber_41 rfl hl (by decide) rfl (fun ls hl => ?_)
        refine lv_aload_n hx hb dX4_takeNumber_42 rfl (lv_at hl 1 rfl) ?_
        obtain ⟨z_25, ez_25⟩ : ∃ y : Int32, y = G.1 a 0 := ⟨_, rfl⟩
        obtain ⟨z_26, ez_26⟩ : ∃ y : Int32, y = G.1 a 3 := ⟨_, rfl⟩
        have rz_26 : 0 ≤ z_26.toInt ∧ z_26.toInt ≤ 1600 := by rw [ez_26]; exact hT.rgi h_a (by decide) 3
        refine t_callv (runV (As := []) (rest := []) ⟨hx, hb, hml, hown, hts⟩ (t_X4_step l D cy base τ G a h_a z_25 ez_25 z_26 ez_26) sV_X4_105 hK (t_recv cf_2 hK hT h_a) ⟨Nat.le_trans hZ hS.1, hT⟩ ⟨Nat.le_of_ble_eq_true rfl, Nat.le_of_ble_eq_true rfl⟩ rfl hl.1 rfl (Nat.le_of_ble_eq_true rfl) dX4_takeNumber_43 ⟨Nat.le_of_ble_eq_true rfl, Nat.le_of_ble_eq_true rfl⟩) hS (fun G_27 H locs hF_27 hr_27 hT hS => ?_)
        have hF := hF.tr hF_27 rfl
        have hr_27_s0 := hr_27
        have k_31 : z_25 = G_27.1 a 0 := ez_25.trans hr_27_s0.symm
        refine lv_aload_n hx hb dX4_takeNumber_46 rfl (lv_at hl 1 rfl) ?_
        refine t_geti cf_2 hx hb hts hown hK hT h_a (k := 0) rfl fl_X4_36 (fun _ h9 => h9) dX4_takeNumber_47 (fun z_32 ez_32 rz_32 => ?_)
        have w_33 : z_25 = z_32 := k_31.trans ez_32.symm
        subst w_33
        refine lv_if_ne (tgt := 57) hx hb dX4_takeNumber_50 (by decide) (fun c_34 => ?_) (fun c_34 => ?_)
        · skip
          have tc_34 : ¬ z_25.toInt = 0 := fun h => c_34 ((fa_eq _ _).mpr h)
          refine lv_iload_n hx hb dX4_takeNumber_57 rfl (lv_at hl 2 rfl) ?_
          exact ret_i hx hb hr hlocks ⟨⟨hS.1, hS.2.1⟩, G_27, hF, ⟨_, rfl, (by show lo.toInt = lo.toInt ∨ (lo.toInt ≤ lo.toInt ∧ lo.toInt ≤ hi.toInt); first | omega | assumption)⟩, hT⟩ hS.2.2 (Nat.le_of_ble_eq_true rfl) (Nat.le_of_ble_eq_true rfl) dX4_takeNumber_58
        · skip
          have tc_34 : z_25.toInt = 0 := (fa_eq _ _).mp c_34
          refine lv_iload_n hx hb dX4_takeNumber_53 rfl (lv_at hl 0 rfl) ?_
          refine lv_goto (tgt := 58) hx hb dX4_takeNumber_54 (by decide) ?_
          exact ret_i hx hb hr hlocks ⟨⟨hS.1, hS.2.1⟩, G_27, hF, ⟨_, rfl, (by show z_3.toInt = lo.toInt ∨ (lo.toInt ≤ z_3.toInt ∧ z_3.toInt ≤ hi.toInt); first | omega | assumption)⟩, hT⟩ hS.2.2 (Nat.le_of_ble_eq_true rfl) (Nat.le_of_ble_eq_true rfl) dX4_takeNumber_58
      · skip
        have tc_22 : ¬ z_3.toInt ≤ hi.toInt := fun h => c_22 ((fa_le _ _).mpr h)
        have mc_22 : z_3.toInt ≤ 2147483647 := max_t z_3
        refine lv_aload_n hx hb dX4_takeNumber_32 rfl (lv_at hl 0 rfl) ?_
        refine lv_iconst (v := 2) hx hb dX4_takeNumber_33 (by decide) ?_
        obtain ⟨z_35, ez_35⟩ : ∃ y : Int32, y = G.1 a 0 := ⟨_, rfl⟩
        refine t_callv (runV (As := [.int 2]) (rest := []) ⟨hx, hb, hml, hown, hts⟩ (t_X4_refuse l D cy base τ G a h_a 2 (by decide) z_35 ez_35) sV_X4_79 hK (t_recv cf_2 hK hT h_a) ⟨Nat.le_trans hZ hS.1, hT⟩ ⟨Nat.le_of_ble_eq_true rfl, Nat.le_of_ble_eq_true rfl⟩ rfl hl.1 rfl (Nat.le_of_ble_eq_true rfl) dX4_takeNumber_34 ⟨Nat.le_of_ble_eq_true rfl, Nat.le_of_ble_eq_true rfl⟩) hS (fun G_36 H locs hF_36 hr_36 hT hS => ?_)
        have hF := hF.tr hF_36 rfl
        have hr_36_p0 := hr_36
        obtain ⟨z_39, ez_39, hr_36_p0⟩ : ∃ z_39 : Int32, z_39 = G_36.1 a 0 ∧ (z_39.toInt ≠ 0) := ⟨_, rfl, hr_36_p0⟩
        refine lv_aload_n hx hb dX4_takeNumber_37 rfl (lv_at hl 0 rfl) ?_
        refine t_geti cf_2 hx hb hts hown hK hT h_a (k := 7) rfl fl_X4_197 (fun _ h9 => h9) dX4_takeNumber_38 (fun z_40 ez_40 rz_40 => ?_)
        have ez_40 : z_40 = G_36.1 a 7 := ez_40
        refine lv_istore_n (lv' := [(3, .int z_40), (0, .ref a), (1, .int lo), (2, .int hi)]) hx hb dX4_takeNumber_41 rfl hl (by decide) rfl (fun ls hl => ?_)
        refine lv_aload_n hx hb dX4_takeNumber_42 rfl (lv_at hl 1 rfl) ?_
        obtain ⟨z_41, ez_41⟩ : ∃ y : Int32, y = G_36.1 a 3 := ⟨_, rfl⟩
        have rz_41 : 0 ≤ z_41.toInt ∧ z_41.toInt ≤ 1600 := by rw [ez_41]; exact hT.rgi h_a (by decide) 3
        refine t_callv (runV (As := []) (rest := []) ⟨hx, hb, hml, hown, hts⟩ (t_X4_step l D cy base τ G_36 a h_a z_39 ez_39 z_41 ez_41) sV_X4_105 hK (t_recv cf_2 hK hT h_a) ⟨Nat.le_trans hZ hS.1, hT⟩ ⟨Nat.le_of_ble_eq_true rfl, Nat.le_of_ble_eq_true rfl⟩ rfl hl.1 rfl (Nat.le_of_ble_eq_true rfl) dX4_takeNumber_43 ⟨Nat.le_of_ble_eq_true rfl, Nat.le_of_ble_eq_true rfl⟩) hS (fun G_42 H locs hF_42 hr_42 hT hS => ?_)
        have hF := hF.tr hF_42 rfl
        have hr_42_s0 := hr_42
        have k_46 : z_39 = G_42.1 a 0 := ez_39.trans hr_42_s0.symm
        refine lv_aload_n hx hb dX4_takeNumber_46 rfl (lv_at hl 1 rfl) ?_
        refine t_geti cf_2 hx hb hts hown hK hT h_a (k := 0) rfl fl_X4_36 (fun _ h9 => h9) dX4_takeNumber_47 (fun z_47 ez_47 rz_47 => ?_)
        have w_48 : z_39 = z_47 := k_46.trans ez_47.symm
        subst w_48
        refine lv_if_ne (tgt := 57) hx hb dX4_takeNumber_50 (by decide) (fun c_49 => ?_) (fun c_49 => ?_)
        · skip
          have tc_49 : ¬ z_39.toInt = 0 := fun h => c_49 ((fa_eq _ _).mpr h)
          refine lv_iload_n hx hb dX4_takeNumber_57 rfl (lv_at hl 2 rfl) ?_
          exact ret_i hx hb hr hlocks ⟨⟨hS.1, hS.2.1⟩, G_42, hF, ⟨_, rfl, (by show lo.toInt = lo.toInt ∨ (lo.toInt ≤ lo.toInt ∧ lo.toInt ≤ hi.toInt); first | omega | assumption)⟩, hT⟩ hS.2.2 (Nat.le_of_ble_eq_true rfl) (Nat.le_of_ble_eq_true rfl) dX4_takeNumber_58
        · skip
          have tc_49 : z_39.toInt = 0 := (fa_eq _ _).mp c_49
          refine lv_iload_n hx hb dX4_takeNumber_53 rfl (lv_at hl 0 rfl) ?_
          refine lv_goto (tgt := 58) hx hb dX4_takeNumber_54 (by decide) ?_
          exact ret_i hx hb hr hlocks ⟨⟨hS.1, hS.2.1⟩, G_42, hF, ⟨_, rfl, (by show z_40.toInt = lo.toInt ∨ (lo.toInt ≤ z_40.toInt ∧ z_40.toInt ≤ hi.toInt); first | omega | assumption)⟩, hT⟩ hS.2.2 (Nat.le_of_ble_eq_true rfl) (Nat.le_of_ble_eq_true rfl) dX4_takeNumber_58
  · skip
    have tc_2 : ¬ z_1.toInt = 2 := fun h => c_2 ((fa_eq _ _).mpr h)
    refine lv_aload_n hx hb dX4_takeNumber_8 rfl (lv_at hl 0 rfl) ?_
    refine lv_iconst (v := 1) hx hb dX4_takeNumber_9 (by decide) ?_
    obtain ⟨z_50, ez_50⟩ : ∃ y : Int32, y = G.1 a 0 := ⟨_, rfl⟩
    refine t_callv (runV (As := [.int 1]) (rest := []) ⟨hx, hb, hml, hown, hts⟩ (t_X4_refuse l D cy base τ G a h_a 1 (by decide) z_50 ez_50) sV_X4_79 hK (t_recv cf_2 hK hT h_a) ⟨Nat.le_trans hZ hS.1, hT⟩ ⟨Nat.le_of_ble_eq_true rfl, Nat.le_of_ble_eq_true rfl⟩ rfl hl.1 rfl (Nat.le_of_ble_eq_true rfl) dX4_takeNumber_10 ⟨Nat.le_of_ble_eq_true rfl, Nat.le_of_ble_eq_true rfl⟩) hS (fun G_51 H locs hF_51 hr_51 hT hS => ?_)
    have hF := hF.tr hF_51 rfl
    have hr_51_p0 := hr_51
    obtain ⟨z_53, ez_53, hr_51_p0⟩ : ∃ z_53 : Int32, z_53 = G_51.1 a 0 ∧ (z_53.toInt ≠ 0) := ⟨_, rfl, hr_51_p0⟩
    refine lv_goto (tgt := 37) hx hb dX4_takeNumber_13 (by decide) ?_
    refine lv_aload_n hx hb dX4_takeNumber_37 rfl (lv_at hl 0 rfl) ?_
    refine t_geti cf_2 hx hb hts hown hK hT h_a (k := 7) rfl fl_X4_197 (fun _ h9 => h9) dX4_takeNumber_38 (fun z_54 ez_54 rz_54 => ?_)
    have ez_54 : z_54 = G_51.1 a 7 := ez_54
    refine lv_istore_n (lv' := [(3, .int z_54), (0, .ref a), (1, .int lo), (2, .int hi)]) hx hb dX4_takeNumber_41 rfl hl (by decide) rfl (fun ls hl => ?_)
    refine lv_aload_n hx hb dX4_takeNumber_42 rfl (lv_at hl 1 rfl) ?_
    obtain ⟨z_55, ez_55⟩ : ∃ y : Int32, y = G_51.1 a 3 := ⟨_, rfl⟩
    have rz_55 : 0 ≤ z_55.toInt ∧ z_55.toInt ≤ 1600 := by rw [ez_55]; exact hT.rgi h_a (by decide) 3
    refine t_callv (runV (As := []) (rest := []) ⟨hx, hb, hml, hown, hts⟩ (t_X4_step l D cy base τ G_51 a h_a z_53 ez_53 z_55 ez_55) sV_X4_105 hK (t_recv cf_2 hK hT h_a) ⟨Nat.le_trans hZ hS.1, hT⟩ ⟨Nat.le_of_ble_eq_true rfl, Nat.le_of_ble_eq_true rfl⟩ rfl hl.1 rfl (Nat.le_of_ble_eq_true rfl) dX4_takeNumber_43 ⟨Nat.le_of_ble_eq_true rfl, Nat.le_of_ble_eq_true rfl⟩) hS (fun G_56 H locs hF_56 hr_56 hT hS => ?_)
    have hF := hF.tr hF_56 rfl
    have hr_56_s0 := hr_56
    have k_60 : z_53 = G_56.1 a 0 := ez_53.trans hr_56_s0.symm
    refine lv_aload_n hx hb dX4_takeNumber_46 rfl (lv_at hl 1 rfl) ?_
    refine t_geti cf_2 hx hb hts hown hK hT h_a (k := 0) rfl fl_X4_36 (fun _ h9 => h9) dX4_takeNumber_47 (fun z_61 ez_61 rz_61 => ?_)
    have w_62 : z_53 = z_61 := k_60.trans ez_61.symm
    subst w_62
    refine lv_if_ne (tgt := 57) hx hb dX4_takeNumber_50 (by decide) (fun c_63 => ?_) (fun c_63 => ?_)
    · skip
      have tc_63 : ¬ z_53.toInt = 0 := fun h => c_63 ((fa_eq _ _).mpr h)
      refine lv_iload_n hx hb dX4_takeNumber_57 rfl (lv_at hl 2 rfl) ?_
      exact ret_i hx hb hr hlocks ⟨⟨hS.1, hS.2.1⟩, G_56, hF, ⟨_, rfl, (by show lo.toInt = lo.toInt ∨ (lo.toInt ≤ lo.toInt ∧ lo.toInt ≤ hi.toInt); first | omega | assumption)⟩, hT⟩ hS.2.2 (Nat.le_of_ble_eq_true rfl) (Nat.le_of_ble_eq_true rfl) dX4_takeNumber_58
    · skip
      have tc_63 : z_53.toInt = 0 := (fa_eq _ _).mp c_63
      refine lv_iload_n hx hb dX4_takeNumber_53 rfl (lv_at hl 0 rfl) ?_
      refine lv_goto (tgt := 58) hx hb dX4_takeNumber_54 (by decide) ?_
      exact ret_i hx hb hr hlocks ⟨⟨hS.1, hS.2.1⟩, G_56, hF, ⟨_, rfl, (by show z_54.toInt = lo.toInt ∨ (lo.toInt ≤ z_54.toInt ∧ z_54.toInt ≤ hi.toInt); first | omega | assumption)⟩, hT⟩ hS.2.2 (Nat.le_of_ble_eq_true rfl) (Nat.le_of_ble_eq_true rfl) dX4_takeNumber_58
set_option maxHeartbeats 4000000 in
set_option maxRecDepth 100000 in
theorem t_X4_takeStop (l : Launch) (D : va_G) (cy : Nat → ClassId) (base : Nat) (τ : Nat → Nat) (G : Gh) (a : Nat) (h_a : τ a = 2) : MM l yX4_takeStop cX4_takeStop 1 none 2 0 0 D cy [.ref a] (PT D cy base τ G) (QT D cy base τ G [2, 7] (fun v g => v = none ∧ (True))) (RA base) := by
  refine MM.of (by decide) (Nat.le_of_ble_eq_true rfl) ?_
  intro p e s m below meth c C hPT ls hl
  obtain ⟨hx, hb, hr, hml, hown, hts, hlocks, hK, hnm⟩ := C
  obtain ⟨hZ, hT⟩ := hPT
  have hS : va_S (RA base) s.heap s.heap [] := va_S.rf
  have hF : Fr τ [2, 7] G G := Fr.rf
  have hl : lv_has ls 1 [(0, .ref a)] := hl
  refine lv_aload_n hx hb dX4_takeStop_0 rfl (lv_at hl 0 rfl) ?_
  refine t_geti cf_2 hx hb hts hown hK hT h_a (k := 4) rfl fl_X4_33 (fun _ h9 => h9) dX4_takeStop_1 (fun z_1 ez_1 rz_1 => ?_)
  have ez_1 : z_1 = G.1 a 4 := ez_1
  refine lv_iconst (v := 3) hx hb dX4_takeStop_4 (by decide) ?_
  refine lv_icmp_eq (tgt := 14) hx hb dX4_takeStop_5 (by decide) (fun c_2 => ?_) (fun c_2 => ?_)
  · skip
    have tc_2 : z_1.toInt = 3 := (fa_eq _ _).mp c_2
    refine lv_aload_n hx hb dX4_takeStop_14 rfl (lv_at hl 0 rfl) ?_
    refine t_getr cf_2 hx hb hts hown hK hT h_a (k := 8) (P := fun q => τ q = 7) rfl (fun _ h9 => h9) fl_X4_22 (fun _ h9 => h9) dX4_takeStop_15 (fun q_3 eq_3 hq_3 => ?_)
    refine lv_dup hx hb dX4_takeStop_18 rfl ?_
    refine t_geti cf_7 hx hb hts hown hK hT hq_3 (k := 0) rfl fl_X4_39 (fun _ h9 => h9) dX4_takeStop_19 (fun z_4 ez_4 rz_4 => ?_)
    have ez_4 : z_4 = G.1 q_3 0 := ez_4
    refine lv_iconst (v := 1) hx hb dX4_takeStop_22 (by decide) ?_
    refine lv_iadd hx hb dX4_takeStop_23 ?_
    refine lv_topi (fun z_5 ez_5 => ?_)
    refine t_puti (x := z_5) cf_7 hx hb hts hown hK hT hS hq_3 (k := 0) rfl trivial fl_X4_39 (fun _ h9 => h9) rfl rfl rfl dX4_takeStop_24 (fun H locs G_6 eG_6 hT hS => ?_)
    have hF := hF.wI eG_6 hq_3 rfl
    refine lv_aload_n hx hb dX4_takeStop_27 rfl (lv_at hl 0 rfl) ?_
    obtain ⟨z_7, ez_7⟩ : ∃ y : Int32, y = G_6.1 a 0 := ⟨_, rfl⟩
    obtain ⟨z_8, ez_8⟩ : ∃ y : Int32, y = G_6.1 a 3 := ⟨_, rfl⟩
    have rz_8 : 0 ≤ z_8.toInt ∧ z_8.toInt ≤ 1600 := by rw [ez_8]; exact hT.rgi h_a (by decide) 3
    refine t_callv (runV (As := []) (rest := []) ⟨hx, hb, hml, hown, hts⟩ (t_X4_step l D cy base τ G_6 a h_a z_7 ez_7 z_8 ez_8) sV_X4_105 hK (t_recv cf_2 hK hT h_a) ⟨Nat.le_trans hZ hS.1, hT⟩ ⟨Nat.le_of_ble_eq_true rfl, Nat.le_of_ble_eq_true rfl⟩ rfl hl.1 rfl (Nat.le_of_ble_eq_true rfl) dX4_takeStop_28 ⟨Nat.le_of_ble_eq_true rfl, Nat.le_of_ble_eq_true rfl⟩) hS (fun G_9 H locs hF_9 hr_9 hT hS => ?_)
    have hF := hF.tr hF_9 rfl
    have hr_9_s0 := hr_9
    have k_12 : z_7 = G_9.1 a 0 := ez_7.trans hr_9_s0.symm
    exact ret_v hx hb hr hlocks ⟨⟨hS.1, hS.2.1⟩, G_9, hF, ⟨rfl, trivial⟩, hT⟩ hS.2.2 (Nat.le_of_ble_eq_true rfl) (Nat.le_of_ble_eq_true rfl) dX4_takeStop_31
  · skip
    have tc_2 : ¬ z_1.toInt = 3 := fun h => c_2 ((fa_eq _ _).mpr h)
    refine lv_aload_n hx hb dX4_takeStop_8 rfl (lv_at hl 0 rfl) ?_
    refine lv_iconst (v := 1) hx hb dX4_takeStop_9 (by decide) ?_
    obtain ⟨z_13, ez_13⟩ : ∃ y : Int32, y = G.1 a 0 := ⟨_, rfl⟩
    refine t_callv (runV (As := [.int 1]) (rest := []) ⟨hx, hb, hml, hown, hts⟩ (t_X4_refuse l D cy base τ G a h_a 1 (by decide) z_13 ez_13) sV_X4_79 hK (t_recv cf_2 hK hT h_a) ⟨Nat.le_trans hZ hS.1, hT⟩ ⟨Nat.le_of_ble_eq_true rfl, Nat.le_of_ble_eq_true rfl⟩ rfl hl.1 rfl (Nat.le_of_ble_eq_true rfl) dX4_takeStop_10 ⟨Nat.le_of_ble_eq_true rfl, Nat.le_of_ble_eq_true rfl⟩) hS (fun G_14 H locs hF_14 hr_14 hT hS => ?_)
    have hF := hF.tr hF_14 rfl
    have hr_14_p0 := hr_14
    obtain ⟨z_16, ez_16, hr_14_p0⟩ : ∃ z_16 : Int32, z_16 = G_14.1 a 0 ∧ (z_16.toInt ≠ 0) := ⟨_, rfl, hr_14_p0⟩
    exact ret_v hx hb hr hlocks ⟨⟨hS.1, hS.2.1⟩, G_14, hF, ⟨rfl, trivial⟩, hT⟩ hS.2.2 (Nat.le_of_ble_eq_true rfl) (Nat.le_of_ble_eq_true rfl) dX4_takeStop_13
