theorem dX4_readLand_0 : decode cX4_readLand 0 = .ok (.new 19, 3) := by decide +kernel
theorem dX4_readLand_3 : decode cX4_readLand 3 = .ok (.dup, 1) := by decide +kernel
theorem dX4_readLand_4 : decode cX4_readLand 4 = .ok (.invokespecial 21, 3) := by decide +kernel
theorem dX4_readLand_7 : decode cX4_readLand 7 = .ok (.astore_n 3, 1) := by decide +kernel
theorem dX4_readLand_8 : decode cX4_readLand 8 = .ok (.aload_n 0, 1) := by decide +kernel
theorem dX4_readLand_9 : decode cX4_readLand 9 = .ok (.aload_n 3, 1) := by decide +kernel
theorem dX4_readLand_10 : decode cX4_readLand 10 = .ok (.aload_n 1, 1) := by decide +kernel
theorem dX4_readLand_11 : decode cX4_readLand 11 = .ok (.iload_n 2, 1) := by decide +kernel
theorem dX4_readLand_12 : decode cX4_readLand 12 = .ok (.invokevirtual 26, 3) := by decide +kernel
theorem dX4_readLand_15 : decode cX4_readLand 15 = .ok (.iconst 0, 1) := by decide +kernel
theorem dX4_readLand_16 : decode cX4_readLand 16 = .ok (.istore 4, 2) := by decide +kernel
theorem dX4_readLand_18 : decode cX4_readLand 18 = .ok (.iload 4, 2) := by decide +kernel
theorem dX4_readLand_20 : decode cX4_readLand 20 = .ok (.aload_n 0, 1) := by decide +kernel
theorem dX4_readLand_21 : decode cX4_readLand 21 = .ok (.getfield 30, 3) := by decide +kernel
theorem dX4_readLand_24 : decode cX4_readLand 24 = .ok (.if_icmp .gt 145, 3) := by decide +kernel
theorem dX4_readLand_169 : decode cX4_readLand 169 = .ok (.aload_n 0, 1) := by decide +kernel
theorem dX4_readLand_170 : decode cX4_readLand 170 = .ok (.getfield 36, 3) := by decide +kernel
theorem dX4_readLand_173 : decode cX4_readLand 173 = .ok (.ifCond .ne 7, 3) := by decide +kernel
theorem dX4_readLand_180 : decode cX4_readLand 180 = .ok (.aconst_null, 1) := by decide +kernel
theorem dX4_readLand_181 : decode cX4_readLand 181 = .ok (.areturn, 1) := by decide +kernel
theorem dX4_readLand_176 : decode cX4_readLand 176 = .ok (.aload_n 3, 1) := by decide +kernel
theorem dX4_readLand_177 : decode cX4_readLand 177 = .ok (.goto 4, 3) := by decide +kernel
theorem dX4_readLand_27 : decode cX4_readLand 27 = .ok (.aload_n 0, 1) := by decide +kernel
theorem dX4_readLand_28 : decode cX4_readLand 28 = .ok (.getfield 33, 3) := by decide +kernel
theorem dX4_readLand_31 : decode cX4_readLand 31 = .ok (.ifCond .eq 138, 3) := by decide +kernel
theorem dX4_readLand_34 : decode cX4_readLand 34 = .ok (.aload_n 0, 1) := by decide +kernel
theorem dX4_readLand_35 : decode cX4_readLand 35 = .ok (.getfield 36, 3) := by decide +kernel
theorem dX4_readLand_38 : decode cX4_readLand 38 = .ok (.ifCond .ne 131, 3) := by decide +kernel
theorem dX4_readLand_41 : decode cX4_readLand 41 = .ok (.aload_n 0, 1) := by decide +kernel
theorem dX4_readLand_42 : decode cX4_readLand 42 = .ok (.getfield 22, 3) := by decide +kernel
theorem dX4_readLand_45 : decode cX4_readLand 45 = .ok (.getfield 39, 3) := by decide +kernel
theorem dX4_readLand_48 : decode cX4_readLand 48 = .ok (.ifCond .ne 10, 3) := by decide +kernel
theorem dX4_readLand_58 : decode cX4_readLand 58 = .ok (.aload_n 0, 1) := by decide +kernel
theorem dX4_readLand_59 : decode cX4_readLand 59 = .ok (.ldc 45, 2) := by decide +kernel
theorem dX4_readLand_61 : decode cX4_readLand 61 = .ok (.invokevirtual 47, 3) := by decide +kernel
theorem dX4_readLand_64 : decode cX4_readLand 64 = .ok (.ifCond .eq 10, 3) := by decide +kernel
theorem dX4_readLand_67 : decode cX4_readLand 67 = .ok (.aload_n 0, 1) := by decide +kernel
theorem dX4_readLand_68 : decode cX4_readLand 68 = .ok (.invokevirtual 51, 3) := by decide +kernel
theorem dX4_readLand_71 : decode cX4_readLand 71 = .ok (.goto 88, 3) := by decide +kernel
theorem dX4_readLand_159 : decode cX4_readLand 159 = .ok (.aload_n 0, 1) := by decide +kernel
theorem dX4_readLand_160 : decode cX4_readLand 160 = .ok (.invokevirtual 83, 3) := by decide +kernel
theorem dX4_readLand_163 : decode cX4_readLand 163 = .ok (.iinc 4 1, 3) := by decide +kernel
theorem dX4_readLand_166 : decode cX4_readLand 166 = .ok (.goto (-148), 3) := by decide +kernel
theorem dX4_readLand_74 : decode cX4_readLand 74 = .ok (.aload_n 0, 1) := by decide +kernel
theorem dX4_readLand_75 : decode cX4_readLand 75 = .ok (.ldc 54, 2) := by decide +kernel
theorem dX4_readLand_77 : decode cX4_readLand 77 = .ok (.invokevirtual 47, 3) := by decide +kernel
theorem dX4_readLand_80 : decode cX4_readLand 80 = .ok (.ifCond .eq 10, 3) := by decide +kernel
theorem dX4_readLand_83 : decode cX4_readLand 83 = .ok (.aload_n 0, 1) := by decide +kernel
theorem dX4_readLand_84 : decode cX4_readLand 84 = .ok (.invokevirtual 56, 3) := by decide +kernel
theorem dX4_readLand_87 : decode cX4_readLand 87 = .ok (.goto 72, 3) := by decide +kernel
theorem dX4_readLand_90 : decode cX4_readLand 90 = .ok (.aload_n 0, 1) := by decide +kernel
theorem dX4_readLand_91 : decode cX4_readLand 91 = .ok (.ldc 59, 2) := by decide +kernel
theorem dX4_readLand_93 : decode cX4_readLand 93 = .ok (.invokevirtual 47, 3) := by decide +kernel
theorem dX4_readLand_96 : decode cX4_readLand 96 = .ok (.ifCond .eq 10, 3) := by decide +kernel
theorem dX4_readLand_99 : decode cX4_readLand 99 = .ok (.aload_n 0, 1) := by decide +kernel
theorem dX4_readLand_100 : decode cX4_readLand 100 = .ok (.invokevirtual 61, 3) := by decide +kernel
theorem dX4_readLand_103 : decode cX4_readLand 103 = .ok (.goto 56, 3) := by decide +kernel
theorem dX4_readLand_106 : decode cX4_readLand 106 = .ok (.aload_n 0, 1) := by decide +kernel
theorem dX4_readLand_107 : decode cX4_readLand 107 = .ok (.ldc 64, 2) := by decide +kernel
theorem dX4_readLand_109 : decode cX4_readLand 109 = .ok (.invokevirtual 47, 3) := by decide +kernel
theorem dX4_readLand_112 : decode cX4_readLand 112 = .ok (.ifCond .eq 10, 3) := by decide +kernel
theorem dX4_readLand_115 : decode cX4_readLand 115 = .ok (.aload_n 0, 1) := by decide +kernel
theorem dX4_readLand_116 : decode cX4_readLand 116 = .ok (.invokevirtual 66, 3) := by decide +kernel
theorem dX4_readLand_119 : decode cX4_readLand 119 = .ok (.goto 40, 3) := by decide +kernel
theorem dX4_readLand_122 : decode cX4_readLand 122 = .ok (.aload_n 0, 1) := by decide +kernel
theorem dX4_readLand_123 : decode cX4_readLand 123 = .ok (.ldc 69, 2) := by decide +kernel
theorem dX4_readLand_125 : decode cX4_readLand 125 = .ok (.invokevirtual 47, 3) := by decide +kernel
theorem dX4_readLand_128 : decode cX4_readLand 128 = .ok (.ifCond .eq 10, 3) := by decide +kernel
theorem dX4_readLand_131 : decode cX4_readLand 131 = .ok (.aload_n 0, 1) := by decide +kernel
theorem dX4_readLand_132 : decode cX4_readLand 132 = .ok (.invokevirtual 71, 3) := by decide +kernel
theorem dX4_readLand_135 : decode cX4_readLand 135 = .ok (.goto 24, 3) := by decide +kernel
theorem dX4_readLand_138 : decode cX4_readLand 138 = .ok (.aload_n 0, 1) := by decide +kernel
theorem dX4_readLand_139 : decode cX4_readLand 139 = .ok (.ldc 74, 2) := by decide +kernel
theorem dX4_readLand_141 : decode cX4_readLand 141 = .ok (.invokevirtual 47, 3) := by decide +kernel
theorem dX4_readLand_144 : decode cX4_readLand 144 = .ok (.ifCond .eq 10, 3) := by decide +kernel
theorem dX4_readLand_147 : decode cX4_readLand 147 = .ok (.aload_n 0, 1) := by decide +kernel
theorem dX4_readLand_148 : decode cX4_readLand 148 = .ok (.invokevirtual 76, 3) := by decide +kernel
theorem dX4_readLand_151 : decode cX4_readLand 151 = .ok (.goto 8, 3) := by decide +kernel
theorem dX4_readLand_154 : decode cX4_readLand 154 = .ok (.aload_n 0, 1) := by decide +kernel
theorem dX4_readLand_155 : decode cX4_readLand 155 = .ok (.iconst 1, 1) := by decide +kernel
theorem dX4_readLand_156 : decode cX4_readLand 156 = .ok (.invokevirtual 79, 3) := by decide +kernel
theorem dX4_readLand_51 : decode cX4_readLand 51 = .ok (.aload_n 0, 1) := by decide +kernel
theorem dX4_readLand_52 : decode cX4_readLand 52 = .ok (.invokevirtual 42, 3) := by decide +kernel
theorem dX4_readLand_55 : decode cX4_readLand 55 = .ok (.goto 104, 3) := by decide +kernel
theorem dX9_land_0 : decode cX9_land 0 = .ok (.aload_n 0, 1) := by decide +kernel
theorem dX9_land_1 : decode cX9_land 1 = .ok (.getfield 16, 3) := by decide +kernel
theorem dX9_land_4 : decode cX9_land 4 = .ok (.aload_n 0, 1) := by decide +kernel
theorem dX9_land_5 : decode cX9_land 5 = .ok (.getfield 9, 3) := by decide +kernel
theorem dX9_land_8 : decode cX9_land 8 = .ok (.aload_n 0, 1) := by decide +kernel
theorem dX9_land_9 : decode cX9_land 9 = .ok (.getfield 75, 3) := by decide +kernel
theorem dX9_land_12 : decode cX9_land 12 = .ok (.invokevirtual 82, 3) := by decide +kernel
theorem dX9_land_15 : decode cX9_land 15 = .ok (.astore_n 1, 1) := by decide +kernel
theorem dX9_land_16 : decode cX9_land 16 = .ok (.aload_n 0, 1) := by decide +kernel
theorem dX9_land_17 : decode cX9_land 17 = .ok (.aload_n 0, 1) := by decide +kernel
theorem dX9_land_18 : decode cX9_land 18 = .ok (.getfield 16, 3) := by decide +kernel
theorem dX9_land_21 : decode cX9_land 21 = .ok (.getfield 86, 3) := by decide +kernel
theorem dX9_land_24 : decode cX9_land 24 = .ok (.putfield 89, 3) := by decide +kernel
theorem dX9_land_27 : decode cX9_land 27 = .ok (.aload_n 0, 1) := by decide +kernel
theorem dX9_land_28 : decode cX9_land 28 = .ok (.aload_n 0, 1) := by decide +kernel
theorem dX9_land_29 : decode cX9_land 29 = .ok (.getfield 16, 3) := by decide +kernel
theorem dX9_land_32 : decode cX9_land 32 = .ok (.getfield 92, 3) := by decide +kernel
theorem dX9_land_35 : decode cX9_land 35 = .ok (.putfield 71, 3) := by decide +kernel
theorem dX9_land_38 : decode cX9_land 38 = .ok (.aload_n 1, 1) := by decide +kernel
theorem dX9_land_39 : decode cX9_land 39 = .ok (.ifnonnull 6, 3) := by decide +kernel
theorem dX9_land_42 : decode cX9_land 42 = .ok (.bipush (-4), 2) := by decide +kernel
theorem dX9_land_44 : decode cX9_land 44 = .ok (.ireturn, 1) := by decide +kernel
theorem dX9_land_45 : decode cX9_land 45 = .ok (.aload_n 0, 1) := by decide +kernel
theorem dX9_land_46 : decode cX9_land 46 = .ok (.aload_n 1, 1) := by decide +kernel
theorem dX9_land_47 : decode cX9_land 47 = .ok (.putfield 67, 3) := by decide +kernel
theorem dX9_land_50 : decode cX9_land 50 = .ok (.aload_n 0, 1) := by decide +kernel
theorem dX9_land_51 : decode cX9_land 51 = .ok (.aconst_null, 1) := by decide +kernel
theorem dX9_land_52 : decode cX9_land 52 = .ok (.putfield 93, 3) := by decide +kernel
theorem dX9_land_55 : decode cX9_land 55 = .ok (.aload_n 0, 1) := by decide +kernel
theorem dX9_land_56 : decode cX9_land 56 = .ok (.iconst 0, 1) := by decide +kernel
theorem dX9_land_57 : decode cX9_land 57 = .ok (.putfield 75, 3) := by decide +kernel
theorem dX9_land_60 : decode cX9_land 60 = .ok (.aload_n 0, 1) := by decide +kernel
theorem dX9_land_61 : decode cX9_land 61 = .ok (.getfield 67, 3) := by decide +kernel
theorem dX9_land_64 : decode cX9_land 64 = .ok (.getfield 96, 3) := by decide +kernel
theorem dX9_land_67 : decode cX9_land 67 = .ok (.ireturn, 1) := by decide +kernel
theorem dX9_run_0 : decode cX9_run 0 = .ok (.iload_n 1, 1) := by decide +kernel
theorem dX9_run_1 : decode cX9_run 1 = .ok (.invokestatic 301, 3) := by decide +kernel
theorem dX9_run_4 : decode cX9_run 4 = .ok (.ifCond .eq 13, 3) := by decide +kernel
theorem dX9_run_7 : decode cX9_run 7 = .ok (.aload_n 0, 1) := by decide +kernel
theorem dX9_run_8 : decode cX9_run 8 = .ok (.getfield 67, 3) := by decide +kernel
theorem dX9_run_11 : decode cX9_run 11 = .ok (.getfield 155, 3) := by decide +kernel
theorem dX9_run_14 : decode cX9_run 14 = .ok (.ifCond .ne 6, 3) := by decide +kernel
theorem dX9_run_20 : decode cX9_run 20 = .ok (.bipush 6, 2) := by decide +kernel
theorem dX9_run_22 : decode cX9_run 22 = .ok (.newarray .int, 2) := by decide +kernel
theorem dX9_run_24 : decode cX9_run 24 = .ok (.astore_n 2, 1) := by decide +kernel
theorem dX9_run_25 : decode cX9_run 25 = .ok (.aload_n 0, 1) := by decide +kernel
theorem dX9_run_26 : decode cX9_run 26 = .ok (.getfield 44, 3) := by decide +kernel
theorem dX9_run_29 : decode cX9_run 29 = .ok (.aload_n 0, 1) := by decide +kernel
theorem dX9_run_30 : decode cX9_run 30 = .ok (.getfield 67, 3) := by decide +kernel
theorem dX9_run_33 : decode cX9_run 33 = .ok (.iload_n 1, 1) := by decide +kernel
theorem dX9_run_34 : decode cX9_run 34 = .ok (.aload_n 2, 1) := by decide +kernel
theorem dX9_run_35 : decode cX9_run 35 = .ok (.invokevirtual 304, 3) := by decide +kernel
theorem dX9_run_38 : decode cX9_run 38 = .ok (.aload_n 0, 1) := by decide +kernel
theorem dX9_run_39 : decode cX9_run 39 = .ok (.aload_n 2, 1) := by decide +kernel
theorem dX9_run_40 : decode cX9_run 40 = .ok (.putfield 93, 3) := by decide +kernel
theorem dX9_run_43 : decode cX9_run 43 = .ok (.aload_n 0, 1) := by decide +kernel
theorem dX9_run_44 : decode cX9_run 44 = .ok (.getfield 67, 3) := by decide +kernel
theorem dX9_run_47 : decode cX9_run 47 = .ok (.aload_n 2, 1) := by decide +kernel
theorem dX9_run_48 : decode cX9_run 48 = .ok (.invokevirtual 308, 3) := by decide +kernel
theorem dX9_run_51 : decode cX9_run 51 = .ok (.ireturn, 1) := by decide +kernel
theorem dX9_run_17 : decode cX9_run 17 = .ok (.bipush (-2), 2) := by decide +kernel
theorem dX9_run_19 : decode cX9_run 19 = .ok (.ireturn, 1) := by decide +kernel
theorem dX2_yearOf_0 : decode cX2_yearOf 0 = .ok (.bipush 6, 2) := by decide +kernel
theorem dX2_yearOf_2 : decode cX2_yearOf 2 = .ok (.newarray .int, 2) := by decide +kernel
theorem dX2_yearOf_4 : decode cX2_yearOf 4 = .ok (.astore_n 2, 1) := by decide +kernel
theorem dX2_yearOf_5 : decode cX2_yearOf 5 = .ok (.iconst 0, 1) := by decide +kernel
theorem dX2_yearOf_6 : decode cX2_yearOf 6 = .ok (.istore_n 3, 1) := by decide +kernel
theorem dX2_yearOf_7 : decode cX2_yearOf 7 = .ok (.iload_n 3, 1) := by decide +kernel
theorem dX2_yearOf_8 : decode cX2_yearOf 8 = .ok (.aload_n 1, 1) := by decide +kernel
theorem dX2_yearOf_9 : decode cX2_yearOf 9 = .ok (.arraylength, 1) := by decide +kernel
theorem dX2_yearOf_10 : decode cX2_yearOf 10 = .ok (.if_icmp .ge 61, 3) := by decide +kernel
theorem dX2_yearOf_71 : decode cX2_yearOf 71 = .ok (.aload_n 2, 1) := by decide +kernel
theorem dX2_yearOf_72 : decode cX2_yearOf 72 = .ok (.areturn, 1) := by decide +kernel
theorem dX2_yearOf_13 : decode cX2_yearOf 13 = .ok (.iconst 0, 1) := by decide +kernel
theorem dX2_yearOf_14 : decode cX2_yearOf 14 = .ok (.istore 4, 2) := by decide +kernel
theorem dX2_yearOf_16 : decode cX2_yearOf 16 = .ok (.iload 4, 2) := by decide +kernel
theorem dX2_yearOf_18 : decode cX2_yearOf 18 = .ok (.aload_n 0, 1) := by decide +kernel
theorem dX2_yearOf_19 : decode cX2_yearOf 19 = .ok (.getfield 40, 3) := by decide +kernel
theorem dX2_yearOf_22 : decode cX2_yearOf 22 = .ok (.if_icmp .ge 43, 3) := by decide +kernel
theorem dX2_yearOf_65 : decode cX2_yearOf 65 = .ok (.iinc 3 1, 3) := by decide +kernel
theorem dX2_yearOf_68 : decode cX2_yearOf 68 = .ok (.goto (-61), 3) := by decide +kernel
theorem dX2_yearOf_25 : decode cX2_yearOf 25 = .ok (.iload 4, 2) := by decide +kernel
theorem dX2_yearOf_27 : decode cX2_yearOf 27 = .ok (.bipush 6, 2) := by decide +kernel
theorem dX2_yearOf_29 : decode cX2_yearOf 29 = .ok (.if_icmp .ge 36, 3) := by decide +kernel
theorem dX2_yearOf_32 : decode cX2_yearOf 32 = .ok (.aload_n 2, 1) := by decide +kernel
theorem dX2_yearOf_33 : decode cX2_yearOf 33 = .ok (.iload 4, 2) := by decide +kernel
theorem dX2_yearOf_35 : decode cX2_yearOf 35 = .ok (.iaload, 1) := by decide +kernel
theorem dX2_yearOf_36 : decode cX2_yearOf 36 = .ok (.ifCond .ne 23, 3) := by decide +kernel
theorem dX2_yearOf_59 : decode cX2_yearOf 59 = .ok (.iinc 4 1, 3) := by decide +kernel
theorem dX2_yearOf_62 : decode cX2_yearOf 62 = .ok (.goto (-46), 3) := by decide +kernel
theorem dX2_yearOf_39 : decode cX2_yearOf 39 = .ok (.aload_n 1, 1) := by decide +kernel
theorem dX2_yearOf_40 : decode cX2_yearOf 40 = .ok (.iload_n 3, 1) := by decide +kernel
theorem dX2_yearOf_41 : decode cX2_yearOf 41 = .ok (.laload, 1) := by decide +kernel
theorem dX2_yearOf_42 : decode cX2_yearOf 42 = .ok (.iload 4, 2) := by decide +kernel
theorem dX2_yearOf_44 : decode cX2_yearOf 44 = .ok (.lshr, 1) := by decide +kernel
theorem dX2_yearOf_45 : decode cX2_yearOf 45 = .ok (.lconst 1, 1) := by decide +kernel
theorem dX2_yearOf_46 : decode cX2_yearOf 46 = .ok (.land, 1) := by decide +kernel
theorem dX2_yearOf_47 : decode cX2_yearOf 47 = .ok (.lconst 1, 1) := by decide +kernel
theorem dX2_yearOf_48 : decode cX2_yearOf 48 = .ok (.lcmp, 1) := by decide +kernel
theorem dX2_yearOf_49 : decode cX2_yearOf 49 = .ok (.ifCond .ne 10, 3) := by decide +kernel
theorem dX2_yearOf_52 : decode cX2_yearOf 52 = .ok (.aload_n 2, 1) := by decide +kernel
theorem dX2_yearOf_53 : decode cX2_yearOf 53 = .ok (.iload 4, 2) := by decide +kernel
theorem dX2_yearOf_55 : decode cX2_yearOf 55 = .ok (.iload_n 3, 1) := by decide +kernel
theorem dX2_yearOf_56 : decode cX2_yearOf 56 = .ok (.iconst 1, 1) := by decide +kernel
theorem dX2_yearOf_57 : decode cX2_yearOf 57 = .ok (.iadd, 1) := by decide +kernel
theorem dX2_yearOf_58 : decode cX2_yearOf 58 = .ok (.iastore, 1) := by decide +kernel
theorem dX9_told_0 : decode cX9_told 0 = .ok (.iload_n 1, 1) := by decide +kernel
theorem dX9_told_1 : decode cX9_told 1 = .ok (.invokestatic 312, 3) := by decide +kernel
theorem dX9_told_4 : decode cX9_told 4 = .ok (.ifCond .eq 13, 3) := by decide +kernel
theorem dX9_told_7 : decode cX9_told 7 = .ok (.aload_n 0, 1) := by decide +kernel
theorem dX9_told_8 : decode cX9_told 8 = .ok (.getfield 67, 3) := by decide +kernel
theorem dX9_told_11 : decode cX9_told 11 = .ok (.getfield 155, 3) := by decide +kernel
theorem dX9_told_14 : decode cX9_told 14 = .ok (.ifCond .ne 6, 3) := by decide +kernel
theorem dX9_told_20 : decode cX9_told 20 = .ok (.aload_n 0, 1) := by decide +kernel
theorem dX9_told_21 : decode cX9_told 21 = .ok (.getfield 54, 3) := by decide +kernel
theorem dX9_told_24 : decode cX9_told 24 = .ok (.iload_n 1, 1) := by decide +kernel
theorem dX9_told_25 : decode cX9_told 25 = .ok (.aaload, 1) := by decide +kernel
theorem dX9_told_26 : decode cX9_told 26 = .ok (.astore_n 2, 1) := by decide +kernel
theorem dX9_told_27 : decode cX9_told 27 = .ok (.aload_n 2, 1) := by decide +kernel
theorem dX9_told_28 : decode cX9_told 28 = .ok (.ifnonnull 6, 3) := by decide +kernel
theorem dX9_told_31 : decode cX9_told 31 = .ok (.bipush (-6), 2) := by decide +kernel
theorem dX9_told_33 : decode cX9_told 33 = .ok (.ireturn, 1) := by decide +kernel
theorem dX9_told_34 : decode cX9_told 34 = .ok (.aload_n 2, 1) := by decide +kernel
theorem dX9_told_35 : decode cX9_told 35 = .ok (.getfield 315, 3) := by decide +kernel
theorem dX9_told_38 : decode cX9_told 38 = .ok (.arraylength, 1) := by decide +kernel
theorem dX9_told_39 : decode cX9_told 39 = .ok (.aload_n 0, 1) := by decide +kernel
theorem dX9_told_40 : decode cX9_told 40 = .ok (.getfield 67, 3) := by decide +kernel
theorem dX9_told_43 : decode cX9_told 43 = .ok (.getfield 155, 3) := by decide +kernel
theorem dX9_told_46 : decode cX9_told 46 = .ok (.if_icmp .gt 23, 3) := by decide +kernel
theorem dX9_told_69 : decode cX9_told 69 = .ok (.bipush (-2), 2) := by decide +kernel
theorem dX9_told_71 : decode cX9_told 71 = .ok (.ireturn, 1) := by decide +kernel
theorem dX9_told_49 : decode cX9_told 49 = .ok (.aload_n 2, 1) := by decide +kernel
theorem dX9_told_50 : decode cX9_told 50 = .ok (.lconst 0, 1) := by decide +kernel
theorem dX9_told_51 : decode cX9_told 51 = .ok (.iconst 1, 1) := by decide +kernel
theorem dX9_told_52 : decode cX9_told 52 = .ok (.aload_n 0, 1) := by decide +kernel
theorem dX9_told_53 : decode cX9_told 53 = .ok (.getfield 67, 3) := by decide +kernel
theorem dX9_told_56 : decode cX9_told 56 = .ok (.getfield 137, 3) := by decide +kernel
theorem dX9_told_59 : decode cX9_told 59 = .ok (.ishl, 1) := by decide +kernel
theorem dX9_told_60 : decode cX9_told 60 = .ok (.iconst 1, 1) := by decide +kernel
theorem dX9_told_61 : decode cX9_told 61 = .ok (.isub, 1) := by decide +kernel
theorem dX9_told_62 : decode cX9_told 62 = .ok (.i2l, 1) := by decide +kernel
theorem dX9_told_63 : decode cX9_told 63 = .ok (.invokevirtual 319, 3) := by decide +kernel
theorem dX9_told_66 : decode cX9_told 66 = .ok (.ifCond .ne 6, 3) := by decide +kernel
theorem dX9_told_72 : decode cX9_told 72 = .ok (.aload_n 0, 1) := by decide +kernel
theorem dX9_told_73 : decode cX9_told 73 = .ok (.aload_n 0, 1) := by decide +kernel
theorem dX9_told_74 : decode cX9_told 74 = .ok (.getfield 67, 3) := by decide +kernel
theorem dX9_told_77 : decode cX9_told 77 = .ok (.aload_n 2, 1) := by decide +kernel
theorem dX9_told_78 : decode cX9_told 78 = .ok (.getfield 315, 3) := by decide +kernel
theorem dX9_told_81 : decode cX9_told 81 = .ok (.invokevirtual 323, 3) := by decide +kernel
theorem dX9_told_84 : decode cX9_told 84 = .ok (.putfield 93, 3) := by decide +kernel
theorem dX9_told_87 : decode cX9_told 87 = .ok (.aload_n 0, 1) := by decide +kernel
theorem dX9_told_88 : decode cX9_told 88 = .ok (.getfield 67, 3) := by decide +kernel
theorem dX9_told_91 : decode cX9_told 91 = .ok (.aload_n 0, 1) := by decide +kernel
theorem dX9_told_92 : decode cX9_told 92 = .ok (.getfield 93, 3) := by decide +kernel
theorem dX9_told_95 : decode cX9_told 95 = .ok (.invokevirtual 308, 3) := by decide +kernel
theorem dX9_told_98 : decode cX9_told 98 = .ok (.ireturn, 1) := by decide +kernel
theorem dX9_told_17 : decode cX9_told 17 = .ok (.bipush (-2), 2) := by decide +kernel
theorem dX9_told_19 : decode cX9_told 19 = .ok (.ireturn, 1) := by decide +kernel
theorem dX9_row_0 : decode cX9_row 0 = .ok (.iload_n 1, 1) := by decide +kernel
theorem dX9_row_1 : decode cX9_row 1 = .ok (.invokestatic 312, 3) := by decide +kernel
theorem dX9_row_4 : decode cX9_row 4 = .ok (.ifCond .eq 18, 3) := by decide +kernel
theorem dX9_row_7 : decode cX9_row 7 = .ok (.iload_n 2, 1) := by decide +kernel
theorem dX9_row_8 : decode cX9_row 8 = .ok (.ifCond .lt 14, 3) := by decide +kernel
theorem dX9_row_22 : decode cX9_row 22 = .ok (.bipush (-2), 2) := by decide +kernel
theorem dX9_row_24 : decode cX9_row 24 = .ok (.ireturn, 1) := by decide +kernel
theorem dX9_row_11 : decode cX9_row 11 = .ok (.iload_n 2, 1) := by decide +kernel
theorem dX9_row_12 : decode cX9_row 12 = .ok (.iconst 3, 1) := by decide +kernel
theorem dX9_row_13 : decode cX9_row 13 = .ok (.if_icmp .gt 9, 3) := by decide +kernel
theorem dX9_row_16 : decode cX9_row 16 = .ok (.iload_n 3, 1) := by decide +kernel
theorem dX9_row_17 : decode cX9_row 17 = .ok (.bipush 60, 2) := by decide +kernel
theorem dX9_row_19 : decode cX9_row 19 = .ok (.if_icmp .le 6, 3) := by decide +kernel
theorem dX9_row_25 : decode cX9_row 25 = .ok (.iload_n 3, 1) := by decide +kernel
theorem dX9_row_26 : decode cX9_row 26 = .ok (.ifCond .ge 6, 3) := by decide +kernel
theorem dX9_row_32 : decode cX9_row 32 = .ok (.aload_n 0, 1) := by decide +kernel
theorem dX9_row_33 : decode cX9_row 33 = .ok (.getfield 54, 3) := by decide +kernel
theorem dX9_row_36 : decode cX9_row 36 = .ok (.iload_n 1, 1) := by decide +kernel
theorem dX9_row_37 : decode cX9_row 37 = .ok (.new 52, 3) := by decide +kernel
theorem dX9_row_40 : decode cX9_row 40 = .ok (.dup, 1) := by decide +kernel
theorem dX9_row_41 : decode cX9_row 41 = .ok (.iload_n 2, 1) := by decide +kernel
theorem dX9_row_42 : decode cX9_row 42 = .ok (.iload_n 3, 1) := by decide +kernel
theorem dX9_row_43 : decode cX9_row 43 = .ok (.invokespecial 364, 3) := by decide +kernel
theorem dX9_row_46 : decode cX9_row 46 = .ok (.aastore, 1) := by decide +kernel
theorem dX9_row_47 : decode cX9_row 47 = .ok (.iconst 0, 1) := by decide +kernel
theorem dX9_row_48 : decode cX9_row 48 = .ok (.ireturn, 1) := by decide +kernel
theorem dX9_row_29 : decode cX9_row 29 = .ok (.bipush (-3), 2) := by decide +kernel
theorem dX9_row_31 : decode cX9_row 31 = .ok (.ireturn, 1) := by decide +kernel
theorem dX9_keep_0 : decode cX9_keep 0 = .ok (.iload_n 1, 1) := by decide +kernel
theorem dX9_keep_1 : decode cX9_keep 1 = .ok (.ifCond .lt 8, 3) := by decide +kernel
theorem dX9_keep_9 : decode cX9_keep 9 = .ok (.bipush (-2), 2) := by decide +kernel
theorem dX9_keep_11 : decode cX9_keep 11 = .ok (.ireturn, 1) := by decide +kernel
theorem dX9_keep_4 : decode cX9_keep 4 = .ok (.iload_n 1, 1) := by decide +kernel
theorem dX9_keep_5 : decode cX9_keep 5 = .ok (.iconst 3, 1) := by decide +kernel
theorem dX9_keep_6 : decode cX9_keep 6 = .ok (.if_icmp .lt 6, 3) := by decide +kernel
theorem dX9_keep_12 : decode cX9_keep 12 = .ok (.aload_n 0, 1) := by decide +kernel
theorem dX9_keep_13 : decode cX9_keep 13 = .ok (.getfield 60, 3) := by decide +kernel
theorem dX9_keep_16 : decode cX9_keep 16 = .ok (.iload_n 1, 1) := by decide +kernel
theorem dX9_keep_17 : decode cX9_keep 17 = .ok (.new 58, 3) := by decide +kernel
theorem dX9_keep_20 : decode cX9_keep 20 = .ok (.dup, 1) := by decide +kernel
theorem dX9_keep_21 : decode cX9_keep 21 = .ok (.aload_n 0, 1) := by decide +kernel
theorem dX9_keep_22 : decode cX9_keep 22 = .ok (.getfield 67, 3) := by decide +kernel
theorem dX9_keep_25 : decode cX9_keep 25 = .ok (.aload_n 0, 1) := by decide +kernel
theorem dX9_keep_26 : decode cX9_keep 26 = .ok (.getfield 93, 3) := by decide +kernel
theorem dX9_keep_29 : decode cX9_keep 29 = .ok (.invokespecial 359, 3) := by decide +kernel
theorem dX9_keep_32 : decode cX9_keep 32 = .ok (.aastore, 1) := by decide +kernel
theorem dX9_keep_33 : decode cX9_keep 33 = .ok (.iconst 0, 1) := by decide +kernel
theorem dX9_keep_34 : decode cX9_keep 34 = .ok (.ireturn, 1) := by decide +kernel
theorem sN_X4_21 : SiteN RX4 21 yX2_init cX2_init 1 0 := ⟨by decide +kernel, im_X2_init, ini_X2, co_X2_init, rfl, by decide +kernel⟩
theorem sV_X4_26 : SiteV RX4 26 yX4_begin cX4_begin 4 none 3 := ⟨ml_X4_26, im_X4_begin, se_X4_begin, ini_X4, co_X4_begin, by decide +kernel⟩
theorem sV_X4_51 : SiteV RX4 51 yX4_readThing cX4_readThing 2 none 0 := ⟨ml_X4_51, im_X4_readThing, se_X4_readThing, ini_X4, co_X4_readThing, by decide +kernel⟩
theorem sV_X4_83 : SiteV RX4 83 yX4_takeStop cX4_takeStop 1 none 0 := ⟨ml_X4_83, im_X4_takeStop, se_X4_takeStop, ini_X4, co_X4_takeStop, by decide +kernel⟩
theorem sV_X4_56 : SiteV RX4 56 yX4_readValley cX4_readValley 3 none 0 := ⟨ml_X4_56, im_X4_readValley, se_X4_readValley, ini_X4, co_X4_readValley, by decide +kernel⟩
theorem sV_X4_61 : SiteV RX4 61 yX4_readLorry cX4_readLorry 1 none 0 := ⟨ml_X4_61, im_X4_readLorry, se_X4_readLorry, ini_X4, co_X4_readLorry, by decide +kernel⟩
theorem sV_X4_66 : SiteV RX4 66 yX4_readPlane cX4_readPlane 1 none 0 := ⟨ml_X4_66, im_X4_readPlane, se_X4_readPlane, ini_X4, co_X4_readPlane, by decide +kernel⟩
theorem sV_X4_71 : SiteV RX4 71 yX4_readMule cX4_readMule 1 none 0 := ⟨ml_X4_71, im_X4_readMule, se_X4_readMule, ini_X4, co_X4_readMule, by decide +kernel⟩
theorem sV_X4_76 : SiteV RX4 76 yX4_readPath cX4_readPath 4 none 0 := ⟨ml_X4_76, im_X4_readPath, se_X4_readPath, ini_X4, co_X4_readPath, by decide +kernel⟩
theorem sV_X4_42 : SiteV RX4 42 yX4_readWinter cX4_readWinter 1 none 0 := ⟨ml_X4_42, im_X4_readWinter, se_X4_readWinter, ini_X4, co_X4_readWinter, by decide +kernel⟩
theorem sV_X9_82 : SiteV RX9 82 yX4_readLand cX4_readLand 5 (some (.object "RoadShut$Land")) 2 := ⟨ml_X9_82, im_X4_readLand, se_X4_readLand, ini_X4, co_X4_readLand, by decide +kernel⟩
theorem sV_X9_308 : SiteV RX9 308 yX2_roadsShut cX2_roadsShut 4 (some .int) 1 := ⟨ml_X9_308, im_X2_roadsShut, se_X2_roadsShut, ini_X2, co_X2_roadsShut, by decide +kernel⟩
theorem sV_X9_323 : SiteV RX9 323 yX2_yearOf cX2_yearOf 5 (some (.array .int)) 1 := ⟨ml_X9_323, im_X2_yearOf, se_X2_yearOf, ini_X2, co_X2_yearOf, by decide +kernel⟩
theorem sI_X9_364 : SiteI RX9 364 yX6_init cX6_init 3 2 := ⟨ml_X9_364, im_X6_init, ini_X6, co_X6_init, rfl, by decide +kernel⟩
theorem sI_X9_359 : SiteI RX9 359 yX1_init cX1_init 3 2 := ⟨ml_X9_359, im_X1_init, ini_X1, co_X1_init, rfl, by decide +kernel⟩
set_option maxHeartbeats 4000000 in
set_option maxRecDepth 100000 in
theorem t_X4_readLand (l : Launch) (D : va_G) (cy : Nat → ClassId) (base : Nat) (τ : Nat → Nat) (G : Gh) (adK adV : Nat → Nat)  (a : Nat) (h_a : τ a = 2) (d : Nat) (h_d : τ d = 20) (v : Int32) (r_v : 0 ≤ v.toInt ∧ v.toInt ≤ 1600) : MS l yX4_readLand cX4_readLand 5 (some (.object "RoadShut$Land")) 8 8 96 D cy adK adV base [.ref a, .ref d, .int v] (PT D cy base τ G) (QE D cy base τ G [2, 7, 26, 27, 28, 29, 1002] (fun v τ1 g => (v = some .null ∨ ∃ q, v = some (.ref q) ∧ τ1 q = 7))) (RA base) := by
  refine MS.of (by decide) (Nat.le_of_ble_eq_true rfl) ?_
  intro p e s m below meth c C hPT hSS ls hl
  obtain ⟨hx, hb, hr, hml, hown, hts, hlocks, hK, hnm⟩ := C
  obtain ⟨hZ, hT⟩ := hPT
  have hS : va_S (RA base) s.heap s.heap [] := va_S.rf
  have hF : Fr τ [2, 7, 26, 27, 28, 29, 1002] G G := Fr.rf
  have hl : lv_has ls 5 [(0, .ref a), (1, .ref d), (2, .int v)] := hl
  refine t_newo (ci := 2) (fs := [.int 0, .int 0, .int 0, .int 0, .int 0, .int 0, .int 0, .int 0, .int 0, .int 0, .int 0, .int 0, .int 0, .int 0, .null, .null, .null, .null, .null, .null, .null]) (C := RX2) (T := TX2) (N := 21) (ty := tyX2) hx hb hts lay_X2 tyX2_ok hown cl_X4_19 ins_X2 ini_X2 hK hT hS hZ rfl born_X2 (Nat.le_of_ble_eq_true rfl) (Nat.le_of_ble_eq_true rfl) dX4_readLand_0 (fun q_1 H hX hS => ?_)
  have hT := hX.ty
  refine lv_dup hx hb dX4_readLand_3 rfl ?_
  refine t_ctor (runN (As := []) (rest := [.ref q_1]) ⟨hx, hb, hml, hown, hts⟩ (i_X2 l D cy q_1 _) sN_X4_21 hK hX.pw ⟨Nat.le_of_ble_eq_true rfl, Nat.le_of_ble_eq_true rfl⟩ rfl hl.1 rfl (Nat.le_of_ble_eq_true rfl) dX4_readLand_4 ⟨Nat.le_of_ble_eq_true rfl, Nat.le_of_ble_eq_true rfl⟩) hX hS hZ (fun v9 u9 H locs hv9 hX hS => ?_)
  subst hv9
  refine W.eq (g2 := F0 m 7 ls [.ref q_1]) rfl ?_
  obtain ⟨τ, G, hE, hFa, hq_1, oq_1, hT⟩ := ab_X2 hX
  have hF0 := hF.tr hFa rfl
  have h_a_o := h_a
  have h_a : τ a = 2 := hE.tg h_a (by decide)
  have h_d_o := h_d
  have h_d : τ d = 20 := hE.tg h_d (by decide)
  have hF : Fr τ [2, 7, 26, 27, 28, 29, 1002] G G := Fr.rf
  refine lv_astore_n (lv' := [(3, .ref q_1), (0, .ref a), (1, .ref d), (2, .int v)]) hx hb dX4_readLand_7 rfl hl (by decide) rfl (fun ls hl => ?_)
  refine lv_aload_n hx hb dX4_readLand_8 rfl (lv_at hl 1 rfl) ?_
  refine lv_aload_n hx hb dX4_readLand_9 rfl (lv_at hl 0 rfl) ?_
  refine lv_aload_n hx hb dX4_readLand_10 rfl (lv_at hl 2 rfl) ?_
  refine lv_iload_n hx hb dX4_readLand_11 rfl (lv_at hl 3 rfl) ?_
  refine t_callv (runV (As := [.ref q_1, .ref d, .int v]) (rest := []) ⟨hx, hb, hml, hown, hts⟩ (t_X4_begin l D cy base τ G a h_a q_1 hq_1 d h_d v ⟨by omega, by omega⟩) sV_X4_26 hK (t_recv cf_2 hK hT h_a) ⟨Nat.le_trans hZ hS.1, hT⟩ ⟨Nat.le_of_ble_eq_true rfl, Nat.le_of_ble_eq_true rfl⟩ rfl hl.1 rfl (Nat.le_of_ble_eq_true rfl) dX4_readLand_12 ⟨Nat.le_of_ble_eq_true rfl, Nat.le_of_ble_eq_true rfl⟩) hS (fun G_3 H locs hF_3 hr_3 hT hS => ?_)
  have hF := hF.tr hF_3 rfl
  refine lv_iconst (v := 0) hx hb dX4_readLand_15 (by decide) ?_
  refine lv_istore (lv' := [(4, .int 0), (3, .ref q_1), (0, .ref a), (1, .ref d), (2, .int v)]) hx hb dX4_readLand_16 hl (by decide) rfl (fun ls hl => ?_)
  refine W.loop (σ := Int32 × Gh) (fun w4 H locs ls => 0 ≤ w4.1.toInt ∧ w4.1.toInt ≤ 1601 ∧ Fr τ [2, 7, 26, 27, 28, 29, 1002] G w4.2 ∧ TY D cy base τ w4.2 H ∧ va_S (RA base) s.heap H locs ∧ lv_has ls 5 [(4, .int w4.1), (3, .ref q_1), (0, .ref a), (1, .ref d), (2, .int v)]) (fun w4 => (1601 - w4.1.toInt).toNat) ?_ ((0 : Int32), G_3) _ _ _ ⟨(by show 0 ≤ (0 : Int32).toInt; decide), (by show (0 : Int32).toInt ≤ 1601; decide), hF, hT, hS, lv_sub hl [0, 1, 2, 3, 4] rfl⟩
  intro w4 H locs ls hI ih4
  obtain ⟨x4_4, G_4⟩ := w4
  obtain ⟨i4_0, i4_1, hF, hT, hS, hl⟩ := hI
  have i4_0 : 0 ≤ x4_4.toInt := i4_0
  have i4_1 : x4_4.toInt ≤ 1601 := i4_1
  have hF : Fr τ [2, 7, 26, 27, 28, 29, 1002] G G_4 := hF
  have hT : TY D cy base τ G_4 H := hT
  have hS : va_S (RA base) s.heap H locs := hS
  have hl : lv_has ls 5 [(4, .int x4_4), (3, .ref q_1), (0, .ref a), (1, .ref d), (2, .int v)] := hl
  refine lv_iload hx hb dX4_readLand_18 (lv_at hl 0 rfl) ?_
  refine lv_aload_n hx hb dX4_readLand_20 rfl (lv_at hl 2 rfl) ?_
  refine t_geti cf_2 hx hb hts hown hK hT h_a (k := 3) rfl fl_X4_30 (fun _ h9 => h9) dX4_readLand_21 (fun z_5 ez_5 rz_5 => ?_)
  have ez_5 : z_5 = G_4.1 a 3 := ez_5
  have rz_5 : 0 ≤ z_5.toInt ∧ z_5.toInt ≤ 1600 := rz_5
  refine lv_icmp_gt (tgt := 169) hx hb dX4_readLand_24 (by decide) (fun c_6 => ?_) (fun c_6 => ?_)
  · skip
    have tc_6 : z_5.toInt < x4_4.toInt := (fa_lt _ _).mp c_6
    refine lv_aload_n hx hb dX4_readLand_169 rfl (lv_at hl 2 rfl) ?_
    refine t_geti cf_2 hx hb hts hown hK hT h_a (k := 0) rfl fl_X4_36 (fun _ h9 => h9) dX4_readLand_170 (fun z_7 ez_7 rz_7 => ?_)
    have ez_7 : z_7 = G_4.1 a 0 := ez_7
    refine lv_if_ne (tgt := 180) hx hb dX4_readLand_173 (by decide) (fun c_8 => ?_) (fun c_8 => ?_)
    · skip
      have tc_8 : ¬ z_7.toInt = 0 := fun h => c_8 ((fa_eq _ _).mpr h)
      refine lv_null hx hb dX4_readLand_180 ?_
      exact ret_a hx hb hr (Or.inl ⟨_, rfl⟩) (Or.inl rfl) hlocks ⟨⟨hS.1, hS.2.1⟩, τ, G_4, hE, (hF0.tr (hF.dn hE) rfl), (Or.inl rfl), hT⟩ hS.2.2 (Nat.le_of_ble_eq_true rfl) (Nat.le_of_ble_eq_true rfl) dX4_readLand_181
    · skip
      have tc_8 : z_7.toInt = 0 := (fa_eq _ _).mp c_8
      refine lv_aload_n hx hb dX4_readLand_176 rfl (lv_at hl 1 rfl) ?_
      refine lv_goto (tgt := 181) hx hb dX4_readLand_177 (by decide) ?_
      exact ret_a hx hb hr (Or.inl ⟨_, rfl⟩) (Or.inr ⟨_, rfl⟩) hlocks ⟨⟨hS.1, hS.2.1⟩, τ, G_4, hE, (hF0.tr (hF.dn hE) rfl), (Or.inr ⟨_, rfl, hq_1⟩), hT⟩ hS.2.2 (Nat.le_of_ble_eq_true rfl) (Nat.le_of_ble_eq_true rfl) dX4_readLand_181
  · skip
    have tc_6 : ¬ z_5.toInt < x4_4.toInt := fun h => c_6 ((fa_lt _ _).mpr h)
    refine lv_aload_n hx hb dX4_readLand_27 rfl (lv_at hl 2 rfl) ?_
    refine t_geti cf_2 hx hb hts hown hK hT h_a (k := 4) rfl fl_X4_33 (fun _ h9 => h9) dX4_readLand_28 (fun z_9 ez_9 rz_9 => ?_)
    have ez_9 : z_9 = G_4.1 a 4 := ez_9
    refine lv_if_eq (tgt := 169) hx hb dX4_readLand_31 (by decide) (fun c_10 => ?_) (fun c_10 => ?_)
    · skip
      have tc_10 : z_9.toInt = 0 := (fa_eq _ _).mp c_10
      refine lv_aload_n hx hb dX4_readLand_169 rfl (lv_at hl 2 rfl) ?_
      refine t_geti cf_2 hx hb hts hown hK hT h_a (k := 0) rfl fl_X4_36 (fun _ h9 => h9) dX4_readLand_170 (fun z_11 ez_11 rz_11 => ?_)
      have ez_11 : z_11 = G_4.1 a 0 := ez_11
      refine lv_if_ne (tgt := 180) hx hb dX4_readLand_173 (by decide) (fun c_12 => ?_) (fun c_12 => ?_)
      · skip
        have tc_12 : ¬ z_11.toInt = 0 := fun h => c_12 ((fa_eq _ _).mpr h)
        refine lv_null hx hb dX4_readLand_180 ?_
        exact ret_a hx hb hr (Or.inl ⟨_, rfl⟩) (Or.inl rfl) hlocks ⟨⟨hS.1, hS.2.1⟩, τ, G_4, hE, (hF0.tr (hF.dn hE) rfl), (Or.inl rfl), hT⟩ hS.2.2 (Nat.le_of_ble_eq_true rfl) (Nat.le_of_ble_eq_true rfl) dX4_readLand_181
      · skip
        have tc_12 : z_11.toInt = 0 := (fa_eq _ _).mp c_12
        refine lv_aload_n hx hb dX4_readLand_176 rfl (lv_at hl 1 rfl) ?_
        refine lv_goto (tgt := 181) hx hb dX4_readLand_177 (by decide) ?_
        exact ret_a hx hb hr (Or.inl ⟨_, rfl⟩) (Or.inr ⟨_, rfl⟩) hlocks ⟨⟨hS.1, hS.2.1⟩, τ, G_4, hE, (hF0.tr (hF.dn hE) rfl), (Or.inr ⟨_, rfl, hq_1⟩), hT⟩ hS.2.2 (Nat.le_of_ble_eq_true rfl) (Nat.le_of_ble_eq_true rfl) dX4_readLand_181
    · skip
      have tc_10 : ¬ z_9.toInt = 0 := fun h => c_10 ((fa_eq _ _).mpr h)
      refine lv_aload_n hx hb dX4_readLand_34 rfl (lv_at hl 2 rfl) ?_
      refine t_geti cf_2 hx hb hts hown hK hT h_a (k := 0) rfl fl_X4_36 (fun _ h9 => h9) dX4_readLand_35 (fun z_13 ez_13 rz_13 => ?_)
      have ez_13 : z_13 = G_4.1 a 0 := ez_13
      refine lv_if_ne (tgt := 169) hx hb dX4_readLand_38 (by decide) (fun c_14 => ?_) (fun c_14 => ?_)
      · skip
        have tc_14 : ¬ z_13.toInt = 0 := fun h => c_14 ((fa_eq _ _).mpr h)
        refine lv_aload_n hx hb dX4_readLand_169 rfl (lv_at hl 2 rfl) ?_
        refine t_geti cf_2 hx hb hts hown hK hT h_a (k := 0) rfl fl_X4_36 (fun _ h9 => h9) dX4_readLand_170 (fun z_15 ez_15 rz_15 => ?_)
        have w_16 : z_13 = z_15 := ez_13.trans ez_15.symm
        subst w_16
        refine lv_if_ne (tgt := 180) hx hb dX4_readLand_173 (by decide) (fun c_17 => ?_) (fun c_17 => ?_)
        · skip
          have tc_17 : ¬ z_13.toInt = 0 := fun h => c_17 ((fa_eq _ _).mpr h)
          refine lv_null hx hb dX4_readLand_180 ?_
          exact ret_a hx hb hr (Or.inl ⟨_, rfl⟩) (Or.inl rfl) hlocks ⟨⟨hS.1, hS.2.1⟩, τ, G_4, hE, (hF0.tr (hF.dn hE) rfl), (Or.inl rfl), hT⟩ hS.2.2 (Nat.le_of_ble_eq_true rfl) (Nat.le_of_ble_eq_true rfl) dX4_readLand_181
        · skip
          have tc_17 : z_13.toInt = 0 := (fa_eq _ _).mp c_17
          refine lv_aload_n hx hb dX4_readLand_176 rfl (lv_at hl 1 rfl) ?_
          refine lv_goto (tgt := 181) hx hb dX4_readLand_177 (by decide) ?_
          exact ret_a hx hb hr (Or.inl ⟨_, rfl⟩) (Or.inr ⟨_, rfl⟩) hlocks ⟨⟨hS.1, hS.2.1⟩, τ, G_4, hE, (hF0.tr (hF.dn hE) rfl), (Or.inr ⟨_, rfl, hq_1⟩), hT⟩ hS.2.2 (Nat.le_of_ble_eq_true rfl) (Nat.le_of_ble_eq_true rfl) dX4_readLand_181
      · skip
        have tc_14 : z_13.toInt = 0 := (fa_eq _ _).mp c_14
        refine lv_aload_n hx hb dX4_readLand_41 rfl (lv_at hl 2 rfl) ?_
        refine t_getr cf_2 hx hb hts hown hK hT h_a (k := 8) (P := fun q => τ q = 7) rfl (fun _ h9 => h9) fl_X4_22 (fun _ h9 => h9) dX4_readLand_42 (fun q_18 eq_18 hq_18 => ?_)
        refine t_geti cf_7 hx hb hts hown hK hT hq_18 (k := 0) rfl fl_X4_39 (fun _ h9 => h9) dX4_readLand_45 (fun z_19 ez_19 rz_19 => ?_)
        have ez_19 : z_19 = G_4.1 q_18 0 := ez_19
        refine lv_if_ne (tgt := 58) hx hb dX4_readLand_48 (by decide) (fun c_20 => ?_) (fun c_20 => ?_)
        · skip
          have tc_20 : ¬ z_19.toInt = 0 := fun h => c_20 ((fa_eq _ _).mpr h)
          refine lv_aload_n hx hb dX4_readLand_58 rfl (lv_at hl 2 rfl) ?_
          refine va_ldcS (tx := "thing") hx hb hown (hSS.2.1 5 (by decide)) dX4_readLand_59 ?_
          refine pu_calli (runVs (As := [.ref (adK 5)]) (rest := []) ⟨hx, hb, hml, hown, hts⟩ (t_X4_isWord l D cy base τ G_4 adK adV 5 (by decide) a h_a) sV_X4_47 hK hSS hS (t_recv cf_2 hK hT h_a) ⟨Nat.le_trans hZ hS.1, hT⟩ ⟨Nat.le_of_ble_eq_true rfl, Nat.le_of_ble_eq_true rfl⟩ rfl hl.1 rfl (Nat.le_of_ble_eq_true rfl) dX4_readLand_61 ⟨Nat.le_of_ble_eq_true rfl, Nat.le_of_ble_eq_true rfl⟩) (fun r_21 hr_21 => ?_)
          have hr_21_c := hr_21
          rcases hr_21_c with hr_21_0 | hr_21_1
          · skip
            have er_21 := hr_21_0
            subst er_21
            refine W.eq (g2 := F0 m 64 ls [.int 1]) rfl ?_
            refine lv_if_eq (tgt := 74) hx hb dX4_readLand_64 (by decide) (fun c_22 => absurd c_22 (by decide)) (fun _ => ?_)
            refine lv_aload_n hx hb dX4_readLand_67 rfl (lv_at hl 2 rfl) ?_
            refine t_callv (runVs (As := []) (rest := []) ⟨hx, hb, hml, hown, hts⟩ (t_X4_readThing l D cy base τ G_4 adK adV  a h_a) sV_X4_51 hK hSS hS (t_recv cf_2 hK hT h_a) ⟨Nat.le_trans hZ hS.1, hT⟩ ⟨Nat.le_of_ble_eq_true rfl, Nat.le_of_ble_eq_true rfl⟩ rfl hl.1 rfl (Nat.le_of_ble_eq_true rfl) dX4_readLand_68 ⟨Nat.le_of_ble_eq_true rfl, Nat.le_of_ble_eq_true rfl⟩) hS (fun G_23 H locs hF_23 hr_23 hT hS => ?_)
            have hF := hF.tr hF_23 rfl
            refine lv_goto (tgt := 159) hx hb dX4_readLand_71 (by decide) ?_
            refine lv_aload_n hx hb dX4_readLand_159 rfl (lv_at hl 2 rfl) ?_
            refine t_callv (runV (As := []) (rest := []) ⟨hx, hb, hml, hown, hts⟩ (t_X4_takeStop l D cy base τ G_23 a h_a) sV_X4_83 hK (t_recv cf_2 hK hT h_a) ⟨Nat.le_trans hZ hS.1, hT⟩ ⟨Nat.le_of_ble_eq_true rfl, Nat.le_of_ble_eq_true rfl⟩ rfl hl.1 rfl (Nat.le_of_ble_eq_true rfl) dX4_readLand_160 ⟨Nat.le_of_ble_eq_true rfl, Nat.le_of_ble_eq_true rfl⟩) hS (fun G_24 H locs hF_24 hr_24 hT hS => ?_)
            have hF := hF.tr hF_24 rfl
            obtain ⟨z_25, ez_25⟩ : ∃ y : Int32, y = x4_4 + 1 := ⟨_, rfl⟩
            have tz_25 : z_25.toInt = x4_4.toInt + 1 := add_t ez_25 (show -2147483648 ≤ x4_4.toInt + 1 by omega) (show x4_4.toInt + 1 < 2147483648 by omega)
            refine lv_iinc (v := z_25) (lv' := [(4, .int z_25), (3, .ref q_1), (0, .ref a), (1, .ref d), (2, .int v)]) hx hb dX4_readLand_163 hl (k := 0) rfl (by rw [ez_25]; rfl) (by decide) rfl (fun ls hl => ?_)
            refine lv_goto (tgt := 18) hx hb dX4_readLand_166 (by decide) ?_
            exact ih4 (z_25, G_24) _ _ _ (by show (1601 - z_25.toInt).toNat < (1601 - x4_4.toInt).toNat; omega) ⟨(by show 0 ≤ z_25.toInt; omega), (by show z_25.toInt ≤ 1601; omega), hF, hT, hS, lv_sub hl [0, 1, 2, 3, 4] rfl⟩
          · skip
            have er_21 := hr_21_1
            subst er_21
            refine W.eq (g2 := F0 m 64 ls [.int 0]) rfl ?_
            refine lv_if_eq (tgt := 74) hx hb dX4_readLand_64 (by decide) (fun _ => ?_) (fun c_26 => absurd (by decide) c_26)
            refine lv_aload_n hx hb dX4_readLand_74 rfl (lv_at hl 2 rfl) ?_
            refine va_ldcS (tx := "valley") hx hb hown (hSS.2.1 9 (by decide)) dX4_readLand_75 ?_
            refine pu_calli (runVs (As := [.ref (adK 9)]) (rest := []) ⟨hx, hb, hml, hown, hts⟩ (t_X4_isWord l D cy base τ G_4 adK adV 9 (by decide) a h_a) sV_X4_47 hK hSS hS (t_recv cf_2 hK hT h_a) ⟨Nat.le_trans hZ hS.1, hT⟩ ⟨Nat.le_of_ble_eq_true rfl, Nat.le_of_ble_eq_true rfl⟩ rfl hl.1 rfl (Nat.le_of_ble_eq_true rfl) dX4_readLand_77 ⟨Nat.le_of_ble_eq_true rfl, Nat.le_of_ble_eq_true rfl⟩) (fun r_27 hr_27 => ?_)
            have hr_27_c := hr_27
            rcases hr_27_c with hr_27_0 | hr_27_1
            · skip
              have er_27 := hr_27_0
              subst er_27
              refine W.eq (g2 := F0 m 80 ls [.int 1]) rfl ?_
              refine lv_if_eq (tgt := 90) hx hb dX4_readLand_80 (by decide) (fun c_28 => absurd c_28 (by decide)) (fun _ => ?_)
              refine lv_aload_n hx hb dX4_readLand_83 rfl (lv_at hl 2 rfl) ?_
              refine t_callv (runVs (As := []) (rest := []) ⟨hx, hb, hml, hown, hts⟩ (t_X4_readValley l D cy base τ G_4 adK adV  a h_a) sV_X4_56 hK hSS hS (t_recv cf_2 hK hT h_a) ⟨Nat.le_trans hZ hS.1, hT⟩ ⟨Nat.le_of_ble_eq_true rfl, Nat.le_of_ble_eq_true rfl⟩ rfl hl.1 rfl (Nat.le_of_ble_eq_true rfl) dX4_readLand_84 ⟨Nat.le_of_ble_eq_true rfl, Nat.le_of_ble_eq_true rfl⟩) hS (fun G_29 H locs hF_29 hr_29 hT hS => ?_)
              have hF := hF.tr hF_29 rfl
              refine lv_goto (tgt := 159) hx hb dX4_readLand_87 (by decide) ?_
              refine lv_aload_n hx hb dX4_readLand_159 rfl (lv_at hl 2 rfl) ?_
              refine t_callv (runV (As := []) (rest := []) ⟨hx, hb, hml, hown, hts⟩ (t_X4_takeStop l D cy base τ G_29 a h_a) sV_X4_83 hK (t_recv cf_2 hK hT h_a) ⟨Nat.le_trans hZ hS.1, hT⟩ ⟨Nat.le_of_ble_eq_true rfl, Nat.le_of_ble_eq_true rfl⟩ rfl hl.1 rfl (Nat.le_of_ble_eq_true rfl) dX4_readLand_160 ⟨Nat.le_of_ble_eq_true rfl, Nat.le_of_ble_eq_true rfl⟩) hS (fun G_30 H locs hF_30 hr_30 hT hS => ?_)
              have hF := hF.tr hF_30 rfl
              obtain ⟨z_31, ez_31⟩ : ∃ y : Int32, y = x4_4 + 1 := ⟨_, rfl⟩
              have tz_31 : z_31.toInt = x4_4.toInt + 1 := add_t ez_31 (show -2147483648 ≤ x4_4.toInt + 1 by omega) (show x4_4.toInt + 1 < 2147483648 by omega)
              refine lv_iinc (v := z_31) (lv' := [(4, .int z_31), (3, .ref q_1), (0, .ref a), (1, .ref d), (2, .int v)]) hx hb dX4_readLand_163 hl (k := 0) rfl (by rw [ez_31]; rfl) (by decide) rfl (fun ls hl => ?_)
              refine lv_goto (tgt := 18) hx hb dX4_readLand_166 (by decide) ?_
              exact ih4 (z_31, G_30) _ _ _ (by show (1601 - z_31.toInt).toNat < (1601 - x4_4.toInt).toNat; omega) ⟨(by show 0 ≤ z_31.toInt; omega), (by show z_31.toInt ≤ 1601; omega), hF, hT, hS, lv_sub hl [0, 1, 2, 3, 4] rfl⟩
            · skip
              have er_27 := hr_27_1
              subst er_27
              refine W.eq (g2 := F0 m 80 ls [.int 0]) rfl ?_
              refine lv_if_eq (tgt := 90) hx hb dX4_readLand_80 (by decide) (fun _ => ?_) (fun c_32 => absurd (by decide) c_32)
              refine lv_aload_n hx hb dX4_readLand_90 rfl (lv_at hl 2 rfl) ?_
              refine va_ldcS (tx := "lorry") hx hb hown (hSS.2.1 13 (by decide)) dX4_readLand_91 ?_
              refine pu_calli (runVs (As := [.ref (adK 13)]) (rest := []) ⟨hx, hb, hml, hown, hts⟩ (t_X4_isWord l D cy base τ G_4 adK adV 13 (by decide) a h_a) sV_X4_47 hK hSS hS (t_recv cf_2 hK hT h_a) ⟨Nat.le_trans hZ hS.1, hT⟩ ⟨Nat.le_of_ble_eq_true rfl, Nat.le_of_ble_eq_true rfl⟩ rfl hl.1 rfl (Nat.le_of_ble_eq_true rfl) dX4_readLand_93 ⟨Nat.le_of_ble_eq_true rfl, Nat.le_of_ble_eq_true rfl⟩) (fun r_33 hr_33 => ?_)
              have hr_33_c := hr_33
              rcases hr_33_c with hr_33_0 | hr_33_1
              · skip
                have er_33 := hr_33_0
                subst er_33
                refine W.eq (g2 := F0 m 96 ls [.int 1]) rfl ?_
                refine lv_if_eq (tgt := 106) hx hb dX4_readLand_96 (by decide) (fun c_34 => absurd c_34 (by decide)) (fun _ => ?_)
                refine lv_aload_n hx hb dX4_readLand_99 rfl (lv_at hl 2 rfl) ?_
                refine t_callv (runVs (As := []) (rest := []) ⟨hx, hb, hml, hown, hts⟩ (t_X4_readLorry l D cy base τ G_4 adK adV  a h_a) sV_X4_61 hK hSS hS (t_recv cf_2 hK hT h_a) ⟨Nat.le_trans hZ hS.1, hT⟩ ⟨Nat.le_of_ble_eq_true rfl, Nat.le_of_ble_eq_true rfl⟩ rfl hl.1 rfl (Nat.le_of_ble_eq_true rfl) dX4_readLand_100 ⟨Nat.le_of_ble_eq_true rfl, Nat.le_of_ble_eq_true rfl⟩) hS (fun G_35 H locs hF_35 hr_35 hT hS => ?_)
                have hF := hF.tr hF_35 rfl
                refine lv_goto (tgt := 159) hx hb dX4_readLand_103 (by decide) ?_
                refine lv_aload_n hx hb dX4_readLand_159 rfl (lv_at hl 2 rfl) ?_
                refine t_callv (runV (As := []) (rest := []) ⟨hx, hb, hml, hown, hts⟩ (t_X4_takeStop l D cy base τ G_35 a h_a) sV_X4_83 hK (t_recv cf_2 hK hT h_a) ⟨Nat.le_trans hZ hS.1, hT⟩ ⟨Nat.le_of_ble_eq_true rfl, Nat.le_of_ble_eq_true rfl⟩ rfl hl.1 rfl (Nat.le_of_ble_eq_true rfl) dX4_readLand_160 ⟨Nat.le_of_ble_eq_true rfl, Nat.le_of_ble_eq_true rfl⟩) hS (fun G_36 H locs hF_36 hr_36 hT hS => ?_)
                have hF := hF.tr hF_36 rfl
                obtain ⟨z_37, ez_37⟩ : ∃ y : Int32, y = x4_4 + 1 := ⟨_, rfl⟩
                have tz_37 : z_37.toInt = x4_4.toInt + 1 := add_t ez_37 (show -2147483648 ≤ x4_4.toInt + 1 by omega) (show x4_4.toInt + 1 < 2147483648 by omega)
                refine lv_iinc (v := z_37) (lv' := [(4, .int z_37), (3, .ref q_1), (0, .ref a), (1, .ref d), (2, .int v)]) hx hb dX4_readLand_163 hl (k := 0) rfl (by rw [ez_37]; rfl) (by decide) rfl (fun ls hl => ?_)
                refine lv_goto (tgt := 18) hx hb dX4_readLand_166 (by decide) ?_
                exact ih4 (z_37, G_36) _ _ _ (by show (1601 - z_37.toInt).toNat < (1601 - x4_4.toInt).toNat; omega) ⟨(by show 0 ≤ z_37.toInt; omega), (by show z_37.toInt ≤ 1601; omega), hF, hT, hS, lv_sub hl [0, 1, 2, 3, 4] rfl⟩
              · skip
                have er_33 := hr_33_1
                subst er_33
                refine W.eq (g2 := F0 m 96 ls [.int 0]) rfl ?_
                refine lv_if_eq (tgt := 106) hx hb dX4_readLand_96 (by decide) (fun _ => ?_) (fun c_38 => absurd (by decide) c_38)
                refine lv_aload_n hx hb dX4_readLand_106 rfl (lv_at hl 2 rfl) ?_
                refine va_ldcS (tx := "plane") hx hb hown (hSS.2.1 17 (by decide)) dX4_readLand_107 ?_
                refine pu_calli (runVs (As := [.ref (adK 17)]) (rest := []) ⟨hx, hb, hml, hown, hts⟩ (t_X4_isWord l D cy base τ G_4 adK adV 17 (by decide) a h_a) sV_X4_47 hK hSS hS (t_recv cf_2 hK hT h_a) ⟨Nat.le_trans hZ hS.1, hT⟩ ⟨Nat.le_of_ble_eq_true rfl, Nat.le_of_ble_eq_true rfl⟩ rfl hl.1 rfl (Nat.le_of_ble_eq_true rfl) dX4_readLand_109 ⟨Nat.le_of_ble_eq_true rfl, Nat.le_of_ble_eq_true rfl⟩) (fun r_39 hr_39 => ?_)
                have hr_39_c := hr_39
                rcases hr_39_c with hr_39_0 | hr_39_1
                · skip
                  have er_39 := hr_39_0
                  subst er_39
                  refine W.eq (g2 := F0 m 112 ls [.int 1]) rfl ?_
                  refine lv_if_eq (tgt := 122) hx hb dX4_readLand_112 (by decide) (fun c_40 => absurd c_40 (by decide)) (fun _ => ?_)
                  refine lv_aload_n hx hb dX4_readLand_115 rfl (lv_at hl 2 rfl) ?_
                  refine t_callv (runVs (As := []) (rest := []) ⟨hx, hb, hml, hown, hts⟩ (t_X4_readPlane l D cy base τ G_4 adK adV  a h_a) sV_X4_66 hK hSS hS (t_recv cf_2 hK hT h_a) ⟨Nat.le_trans hZ hS.1, hT⟩ ⟨Nat.le_of_ble_eq_true rfl, Nat.le_of_ble_eq_true rfl⟩ rfl hl.1 rfl (Nat.le_of_ble_eq_true rfl) dX4_readLand_116 ⟨Nat.le_of_ble_eq_true rfl, Nat.le_of_ble_eq_true rfl⟩) hS (fun G_41 H locs hF_41 hr_41 hT hS => ?_)
                  have hF := hF.tr hF_41 rfl
                  refine lv_goto (tgt := 159) hx hb dX4_readLand_119 (by decide) ?_
                  refine lv_aload_n hx hb dX4_readLand_159 rfl (lv_at hl 2 rfl) ?_
                  refine t_callv (runV (As := []) (rest := []) ⟨hx, hb, hml, hown, hts⟩ (t_X4_takeStop l D cy base τ G_41 a h_a) sV_X4_83 hK (t_recv cf_2 hK hT h_a) ⟨Nat.le_trans hZ hS.1, hT⟩ ⟨Nat.le_of_ble_eq_true rfl, Nat.le_of_ble_eq_true rfl⟩ rfl hl.1 rfl (Nat.le_of_ble_eq_true rfl) dX4_readLand_160 ⟨Nat.le_of_ble_eq_true rfl, Nat.le_of_ble_eq_true rfl⟩) hS (fun G_42 H locs hF_42 hr_42 hT hS => ?_)
                  have hF := hF.tr hF_42 rfl
                  obtain ⟨z_43, ez_43⟩ : ∃ y : Int32, y = x4_4 + 1 := ⟨_, rfl⟩
                  have tz_43 : z_43.toInt = x4_4.toInt + 1 := add_t ez_43 (show -2147483648 ≤ x4_4.toInt + 1 by omega) (show x4_4.toInt + 1 < 2147483648 by omega)
                  refine lv_iinc (v := z_43) (lv' := [(4, .int z_43), (3, .ref q_1), (0, .ref a), (1, .ref d), (2, .int v)]) hx hb dX4_readLand_163 hl (k := 0) rfl (by rw [ez_43]; rfl) (by decide) rfl (fun ls hl => ?_)
                  refine lv_goto (tgt := 18) hx hb dX4_readLand_166 (by decide) ?_
                  exact ih4 (z_43, G_42) _ _ _ (by show (1601 - z_43.toInt).toNat < (1601 - x4_4.toInt).toNat; omega) ⟨(by show 0 ≤ z_43.toInt; omega), (by show z_43.toInt ≤ 1601; omega), hF, hT, hS, lv_sub hl [0, 1, 2, 3, 4] rfl⟩
                · skip
                  have er_39 := hr_39_1
                  subst er_39
                  refine W.eq (g2 := F0 m 112 ls [.int 0]) rfl ?_
                  refine lv_if_eq (tgt := 122) hx hb dX4_readLand_112 (by decide) (fun _ => ?_) (fun c_44 => absurd (by decide) c_44)
                  refine lv_aload_n hx hb dX4_readLand_122 rfl (lv_at hl 2 rfl) ?_
                  refine va_ldcS (tx := "mule") hx hb hown (hSS.2.1 18 (by decide)) dX4_readLand_123 ?_
                  refine pu_calli (runVs (As := [.ref (adK 18)]) (rest := []) ⟨hx, hb, hml, hown, hts⟩ (t_X4_isWord l D cy base τ G_4 adK adV 18 (by decide) a h_a) sV_X4_47 hK hSS hS (t_recv cf_2 hK hT h_a) ⟨Nat.le_trans hZ hS.1, hT⟩ ⟨Nat.le_of_ble_eq_true rfl, Nat.le_of_ble_eq_true rfl⟩ rfl hl.1 rfl (Nat.le_of_ble_eq_true rfl) dX4_readLand_125 ⟨Nat.le_of_ble_eq_true rfl, Nat.le_of_ble_eq_true rfl⟩) (fun r_45 hr_45 => ?_)
                  have hr_45_c := hr_45
                  rcases hr_45_c with hr_45_0 | hr_45_1
                  · skip
                    have er_45 := hr_45_0
                    subst er_45
                    refine W.eq (g2 := F0 m 128 ls [.int 1]) rfl ?_
                    refine lv_if_eq (tgt := 138) hx hb dX4_readLand_128 (by decide) (fun c_46 => absurd c_46 (by decide)) (fun _ => ?_)
                    refine lv_aload_n hx hb dX4_readLand_131 rfl (lv_at hl 2 rfl) ?_
                    refine t_callv (runVs (As := []) (rest := []) ⟨hx, hb, hml, hown, hts⟩ (t_X4_readMule l D cy base τ G_4 adK adV  a h_a) sV_X4_71 hK hSS hS (t_recv cf_2 hK hT h_a) ⟨Nat.le_trans hZ hS.1, hT⟩ ⟨Nat.le_of_ble_eq_true rfl, Nat.le_of_ble_eq_true rfl⟩ rfl hl.1 rfl (Nat.le_of_ble_eq_true rfl) dX4_readLand_132 ⟨Nat.le_of_ble_eq_true rfl, Nat.le_of_ble_eq_true rfl⟩) hS (fun G_47 H locs hF_47 hr_47 hT hS => ?_)
                    have hF := hF.tr hF_47 rfl
                    refine lv_goto (tgt := 159) hx hb dX4_readLand_135 (by decide) ?_
                    refine lv_aload_n hx hb dX4_readLand_159 rfl (lv_at hl 2 rfl) ?_
                    refine t_callv (runV (As := []) (rest := []) ⟨hx, hb, hml, hown, hts⟩ (t_X4_takeStop l D cy base τ G_47 a h_a) sV_X4_83 hK (t_recv cf_2 hK hT h_a) ⟨Nat.le_trans hZ hS.1, hT⟩ ⟨Nat.le_of_ble_eq_true rfl, Nat.le_of_ble_eq_true rfl⟩ rfl hl.1 rfl (Nat.le_of_ble_eq_true rfl) dX4_readLand_160 ⟨Nat.le_of_ble_eq_true rfl, Nat.le_of_ble_eq_true rfl⟩) hS (fun G_48 H locs hF_48 hr_48 hT hS => ?_)
                    have hF := hF.tr hF_48 rfl
                    obtain ⟨z_49, ez_49⟩ : ∃ y : Int32, y = x4_4 + 1 := ⟨_, rfl⟩
                    have tz_49 : z_49.toInt = x4_4.toInt + 1 := add_t ez_49 (show -2147483648 ≤ x4_4.toInt + 1 by omega) (show x4_4.toInt + 1 < 2147483648 by omega)
                    refine lv_iinc (v := z_49) (lv' := [(4, .int z_49), (3, .ref q_1), (0, .ref a), (1, .ref d), (2, .int v)]) hx hb dX4_readLand_163 hl (k := 0) rfl (by rw [ez_49]; rfl) (by decide) rfl (fun ls hl => ?_)
                    refine lv_goto (tgt := 18) hx hb dX4_readLand_166 (by decide) ?_
                    exact ih4 (z_49, G_48) _ _ _ (by show (1601 - z_49.toInt).toNat < (1601 - x4_4.toInt).toNat; omega) ⟨(by show 0 ≤ z_49.toInt; omega), (by show z_49.toInt ≤ 1601; omega), hF, hT, hS, lv_sub hl [0, 1, 2, 3, 4] rfl⟩
                  · skip
                    have er_45 := hr_45_1
                    subst er_45
                    refine W.eq (g2 := F0 m 128 ls [.int 0]) rfl ?_
                    refine lv_if_eq (tgt := 138) hx hb dX4_readLand_128 (by decide) (fun _ => ?_) (fun c_50 => absurd (by decide) c_50)
                    refine lv_aload_n hx hb dX4_readLand_138 rfl (lv_at hl 2 rfl) ?_
                    refine va_ldcS (tx := "path") hx hb hown (hSS.2.1 19 (by decide)) dX4_readLand_139 ?_
                    refine pu_calli (runVs (As := [.ref (adK 19)]) (rest := []) ⟨hx, hb, hml, hown, hts⟩ (t_X4_isWord l D cy base τ G_4 adK adV 19 (by decide) a h_a) sV_X4_47 hK hSS hS (t_recv cf_2 hK hT h_a) ⟨Nat.le_trans hZ hS.1, hT⟩ ⟨Nat.le_of_ble_eq_true rfl, Nat.le_of_ble_eq_true rfl⟩ rfl hl.1 rfl (Nat.le_of_ble_eq_true rfl) dX4_readLand_141 ⟨Nat.le_of_ble_eq_true rfl, Nat.le_of_ble_eq_true rfl⟩) (fun r_51 hr_51 => ?_)
                    have hr_51_c := hr_51
                    rcases hr_51_c with hr_51_0 | hr_51_1
                    · skip
                      have er_51 := hr_51_0
                      subst er_51
                      refine W.eq (g2 := F0 m 144 ls [.int 1]) rfl ?_
                      refine lv_if_eq (tgt := 154) hx hb dX4_readLand_144 (by decide) (fun c_52 => absurd c_52 (by decide)) (fun _ => ?_)
                      refine lv_aload_n hx hb dX4_readLand_147 rfl (lv_at hl 2 rfl) ?_
                      refine t_callv (runVs (As := []) (rest := []) ⟨hx, hb, hml, hown, hts⟩ (t_X4_readPath l D cy base τ G_4 adK adV  a h_a) sV_X4_76 hK hSS hS (t_recv cf_2 hK hT h_a) ⟨Nat.le_trans hZ hS.1, hT⟩ ⟨Nat.le_of_ble_eq_true rfl, Nat.le_of_ble_eq_true rfl⟩ rfl hl.1 rfl (Nat.le_of_ble_eq_true rfl) dX4_readLand_148 ⟨Nat.le_of_ble_eq_true rfl, Nat.le_of_ble_eq_true rfl⟩) hS (fun G_53 H locs hF_53 hr_53 hT hS => ?_)
                      have hF := hF.tr hF_53 rfl
                      refine lv_goto (tgt := 159) hx hb dX4_readLand_151 (by decide) ?_
                      refine lv_aload_n hx hb dX4_readLand_159 rfl (lv_at hl 2 rfl) ?_
                      refine t_callv (runV (As := []) (rest := []) ⟨hx, hb, hml, hown, hts⟩ (t_X4_takeStop l D cy base τ G_53 a h_a) sV_X4_83 hK (t_recv cf_2 hK hT h_a) ⟨Nat.le_trans hZ hS.1, hT⟩ ⟨Nat.le_of_ble_eq_true rfl, Nat.le_of_ble_eq_true rfl⟩ rfl hl.1 rfl (Nat.le_of_ble_eq_true rfl) dX4_readLand_160 ⟨Nat.le_of_ble_eq_true rfl, Nat.le_of_ble_eq_true rfl⟩) hS (fun G_54 H locs hF_54 hr_54 hT hS => ?_)
                      have hF := hF.tr hF_54 rfl
                      obtain ⟨z_55, ez_55⟩ : ∃ y : Int32, y = x4_4 + 1 := ⟨_, rfl⟩
                      have tz_55 : z_55.toInt = x4_4.toInt + 1 := add_t ez_55 (show -2147483648 ≤ x4_4.toInt + 1 by omega) (show x4_4.toInt + 1 < 2147483648 by omega)
                      refine lv_iinc (v := z_55) (lv' := [(4, .int z_55), (3, .ref q_1), (0, .ref a), (1, .ref d), (2, .int v)]) hx hb dX4_readLand_163 hl (k := 0) rfl (by rw [ez_55]; rfl) (by decide) rfl (fun ls hl => ?_)
                      refine lv_goto (tgt := 18) hx hb dX4_readLand_166 (by decide) ?_
                      exact ih4 (z_55, G_54) _ _ _ (by show (1601 - z_55.toInt).toNat < (1601 - x4_4.toInt).toNat; omega) ⟨(by show 0 ≤ z_55.toInt; omega), (by show z_55.toInt ≤ 1601; omega), hF, hT, hS, lv_sub hl [0, 1, 2, 3, 4] rfl⟩
                    · skip
                      have er_51 := hr_51_1
                      subst er_51
                      refine W.eq (g2 := F0 m 144 ls [.int 0]) rfl ?_
                      refine lv_if_eq (tgt := 154) hx hb dX4_readLand_144 (by decide) (fun _ => ?_) (fun c_56 => absurd (by decide) c_56)
                      refine lv_aload_n hx hb dX4_readLand_154 rfl (lv_at hl 2 rfl) ?_
                      refine lv_iconst (v := 1) hx hb dX4_readLand_155 (by decide) ?_
                      refine t_callv (runV (As := [.int 1]) (rest := []) ⟨hx, hb, hml, hown, hts⟩ (t_X4_refuse l D cy base τ G_4 a h_a 1 (by decide) z_13 ez_13) sV_X4_79 hK (t_recv cf_2 hK hT h_a) ⟨Nat.le_trans hZ hS.1, hT⟩ ⟨Nat.le_of_ble_eq_true rfl, Nat.le_of_ble_eq_true rfl⟩ rfl hl.1 rfl (Nat.le_of_ble_eq_true rfl) dX4_readLand_156 ⟨Nat.le_of_ble_eq_true rfl, Nat.le_of_ble_eq_true rfl⟩) hS (fun G_57 H locs hF_57 hr_57 hT hS => ?_)
                      have hF := hF.tr hF_57 rfl
                      have hr_57_p0 := hr_57
                      obtain ⟨z_58, ez_58, hr_57_p0⟩ : ∃ z_58 : Int32, z_58 = G_57.1 a 0 ∧ (z_58.toInt ≠ 0) := ⟨_, rfl, hr_57_p0⟩
                      refine lv_aload_n hx hb dX4_readLand_159 rfl (lv_at hl 2 rfl) ?_
                      refine t_callv (runV (As := []) (rest := []) ⟨hx, hb, hml, hown, hts⟩ (t_X4_takeStop l D cy base τ G_57 a h_a) sV_X4_83 hK (t_recv cf_2 hK hT h_a) ⟨Nat.le_trans hZ hS.1, hT⟩ ⟨Nat.le_of_ble_eq_true rfl, Nat.le_of_ble_eq_true rfl⟩ rfl hl.1 rfl (Nat.le_of_ble_eq_true rfl) dX4_readLand_160 ⟨Nat.le_of_ble_eq_true rfl, Nat.le_of_ble_eq_true rfl⟩) hS (fun G_59 H locs hF_59 hr_59 hT hS => ?_)
                      have hF := hF.tr hF_59 rfl
                      obtain ⟨z_60, ez_60⟩ : ∃ y : Int32, y = x4_4 + 1 := ⟨_, rfl⟩
                      have tz_60 : z_60.toInt = x4_4.toInt + 1 := add_t ez_60 (show -2147483648 ≤ x4_4.toInt + 1 by omega) (show x4_4.toInt + 1 < 2147483648 by omega)
                      refine lv_iinc (v := z_60) (lv' := [(4, .int z_60), (3, .ref q_1), (0, .ref a), (1, .ref d), (2, .int v)]) hx hb dX4_readLand_163 hl (k := 0) rfl (by rw [ez_60]; rfl) (by decide) rfl (fun ls hl => ?_)
                      refine lv_goto (tgt := 18) hx hb dX4_readLand_166 (by decide) ?_
                      exact ih4 (z_60, G_59) _ _ _ (by show (1601 - z_60.toInt).toNat < (1601 - x4_4.toInt).toNat; omega) ⟨(by show 0 ≤ z_60.toInt; omega), (by show z_60.toInt ≤ 1601; omega), hF, hT, hS, lv_sub hl [0, 1, 2, 3, 4] rfl⟩
        · skip
          have tc_20 : z_19.toInt = 0 := (fa_eq _ _).mp c_20
          refine lv_aload_n hx hb dX4_readLand_51 rfl (lv_at hl 2 rfl) ?_
          refine t_callv (runVs (As := []) (rest := []) ⟨hx, hb, hml, hown, hts⟩ (t_X4_readWinter l D cy base τ G_4 adK adV  a h_a) sV_X4_42 hK hSS hS (t_recv cf_2 hK hT h_a) ⟨Nat.le_trans hZ hS.1, hT⟩ ⟨Nat.le_of_ble_eq_true rfl, Nat.le_of_ble_eq_true rfl⟩ rfl hl.1 rfl (Nat.le_of_ble_eq_true rfl) dX4_readLand_52 ⟨Nat.le_of_ble_eq_true rfl, Nat.le_of_ble_eq_true rfl⟩) hS (fun G_61 H locs hF_61 hr_61 hT hS => ?_)
          have hF := hF.tr hF_61 rfl
          refine lv_goto (tgt := 159) hx hb dX4_readLand_55 (by decide) ?_
          refine lv_aload_n hx hb dX4_readLand_159 rfl (lv_at hl 2 rfl) ?_
          refine t_callv (runV (As := []) (rest := []) ⟨hx, hb, hml, hown, hts⟩ (t_X4_takeStop l D cy base τ G_61 a h_a) sV_X4_83 hK (t_recv cf_2 hK hT h_a) ⟨Nat.le_trans hZ hS.1, hT⟩ ⟨Nat.le_of_ble_eq_true rfl, Nat.le_of_ble_eq_true rfl⟩ rfl hl.1 rfl (Nat.le_of_ble_eq_true rfl) dX4_readLand_160 ⟨Nat.le_of_ble_eq_true rfl, Nat.le_of_ble_eq_true rfl⟩) hS (fun G_62 H locs hF_62 hr_62 hT hS => ?_)
          have hF := hF.tr hF_62 rfl
          obtain ⟨z_63, ez_63⟩ : ∃ y : Int32, y = x4_4 + 1 := ⟨_, rfl⟩
          have tz_63 : z_63.toInt = x4_4.toInt + 1 := add_t ez_63 (show -2147483648 ≤ x4_4.toInt + 1 by omega) (show x4_4.toInt + 1 < 2147483648 by omega)
          refine lv_iinc (v := z_63) (lv' := [(4, .int z_63), (3, .ref q_1), (0, .ref a), (1, .ref d), (2, .int v)]) hx hb dX4_readLand_163 hl (k := 0) rfl (by rw [ez_63]; rfl) (by decide) rfl (fun ls hl => ?_)
          refine lv_goto (tgt := 18) hx hb dX4_readLand_166 (by decide) ?_
          exact ih4 (z_63, G_62) _ _ _ (by show (1601 - z_63.toInt).toNat < (1601 - x4_4.toInt).toNat; omega) ⟨(by show 0 ≤ z_63.toInt; omega), (by show z_63.toInt ≤ 1601; omega), hF, hT, hS, lv_sub hl [0, 1, 2, 3, 4] rfl⟩
set_option maxHeartbeats 4000000 in
set_option maxRecDepth 100000 in
theorem t_X9_land (l : Launch) (D : va_G) (cy : Nat → ClassId) (base : Nat) (τ : Nat → Nat) (G : Gh) (adK adV : Nat → Nat)  (a : Nat) (h_a : τ a = 1) : MS l yX9_land cX9_land 2 (some .int) 9 8 96 D cy adK adV base [.ref a] (PT D cy base τ G) (QE D cy base τ G [1, 2, 7, 26, 27, 28, 29, 1001, 1002] (fun v τ1 g => ∃ r : Int32, v = some (.int r) ∧ (True))) (RA base) := by
  refine MS.of (by decide) (Nat.le_of_ble_eq_true rfl) ?_
  intro p e s m below meth c C hPT hSS ls hl
  obtain ⟨hx, hb, hr, hml, hown, hts, hlocks, hK, hnm⟩ := C
  obtain ⟨hZ, hT⟩ := hPT
  have hS : va_S (RA base) s.heap s.heap [] := va_S.rf
  have hF : Fr τ [1, 2, 7, 26, 27, 28, 29, 1001, 1002] G G := Fr.rf
  have hl : lv_has ls 2 [(0, .ref a)] := hl
  refine lv_aload_n hx hb dX9_land_0 rfl (lv_at hl 0 rfl) ?_
  refine t_getr cf_1 hx hb hts hown hK hT h_a (k := 1) (P := fun q => τ q = 2) rfl (fun _ h9 => h9) fl_X9_16 (fun _ h9 => h9) dX9_land_1 (fun q_1 eq_1 hq_1 => ?_)
  refine lv_aload_n hx hb dX9_land_4 rfl (lv_at hl 0 rfl) ?_
  refine t_getr cf_1 hx hb hts hown hK hT h_a (k := 0) (P := fun q => τ q = 20 ∧ G.2.2.2 q = 1600) rfl (fun _ h9 => h9) fl_X9_9 (fun _ h9 => h9) dX9_land_5 (fun q_2 eq_2 hq_2 => ?_)
  obtain ⟨hq_2, nq_2⟩ := hq_2
  refine lv_aload_n hx hb dX9_land_8 rfl (lv_at hl 0 rfl) ?_
  refine t_geti cf_1 hx hb hts hown hK hT h_a (k := 9) rfl fl_X9_75 (fun _ h9 => h9) dX9_land_9 (fun z_3 ez_3 rz_3 => ?_)
  have ez_3 : z_3 = G.1 a 9 := ez_3
  have rz_3 : 0 ≤ z_3.toInt ∧ z_3.toInt ≤ 1600 := rz_3
  refine t_calle (runVs (As := [.ref q_2, .int z_3]) (rest := []) ⟨hx, hb, hml, hown, hts⟩ (t_X4_readLand l D cy base τ G adK adV  q_1 hq_1 q_2 hq_2 z_3 ⟨by omega, by omega⟩) sV_X9_82 hK hSS hS (t_recv cf_2 hK hT hq_1) ⟨Nat.le_trans hZ hS.1, hT⟩ ⟨Nat.le_of_ble_eq_true rfl, Nat.le_of_ble_eq_true rfl⟩ rfl hl.1 rfl (Nat.le_of_ble_eq_true rfl) dX9_land_12 ⟨Nat.le_of_ble_eq_true rfl, Nat.le_of_ble_eq_true rfl⟩) hS (fun v_4 τ G H locs hE hF_4 hp_4 hT hS => ?_)
  have hF0 := hF.tr hF_4 rfl
  have h_a_o := h_a
  have h_a : τ a = 1 := hE.tg h_a (by decide)
  have hF : Fr τ [1, 2, 7, 26, 27, 28, 29, 1001, 1002] G G := Fr.rf
  rcases hp_4 with rfl | ⟨q_4, rfl, hq_4⟩
  · skip
    refine W.eq (g2 := F0 m 15 ls [.null]) rfl ?_
    refine lv_astore_nN (lv' := [(1, .null), (0, .ref a)]) hx hb dX9_land_15 rfl hl (by decide) rfl (fun ls hl => ?_)
    refine lv_aload_n hx hb dX9_land_16 rfl (lv_at hl 1 rfl) ?_
    refine lv_aload_n hx hb dX9_land_17 rfl (lv_at hl 1 rfl) ?_
    refine t_getr cf_1 hx hb hts hown hK hT h_a (k := 1) (P := fun q => τ q = 2) rfl (fun _ h9 => h9) fl_X9_16 (fun _ h9 => h9) dX9_land_18 (fun q_5 eq_5 hq_5 => ?_)
    refine t_geti cf_2 hx hb hts hown hK hT hq_5 (k := 0) rfl fl_X9_86 (fun _ h9 => h9) dX9_land_21 (fun z_6 ez_6 rz_6 => ?_)
    have ez_6 : z_6 = G.1 q_5 0 := ez_6
    refine t_puti (x := z_6) cf_1 hx hb hts hown hK hT hS h_a (k := 12) rfl trivial fl_X9_89 (fun _ h9 => h9) rfl rfl rfl dX9_land_24 (fun H locs G_7 eG_7 hT hS => ?_)
    have hF := hF.wI eG_7 h_a rfl
    refine lv_aload_n hx hb dX9_land_27 rfl (lv_at hl 1 rfl) ?_
    refine lv_aload_n hx hb dX9_land_28 rfl (lv_at hl 1 rfl) ?_
    refine t_getr cf_1 hx hb hts hown hK hT h_a (k := 1) (P := fun q => τ q = 2) rfl (fun _ h9 => h9) fl_X9_16 (fun _ h9 => h9) dX9_land_29 (fun q_8 eq_8 hq_8 => ?_)
    refine t_geti cf_2 hx hb hts hown hK hT hq_8 (k := 1) rfl fl_X9_92 (fun _ h9 => h9) dX9_land_32 (fun z_9 ez_9 rz_9 => ?_)
    have ez_9 : z_9 = G_7.1 q_8 1 := ez_9
    refine t_puti (x := z_9) cf_1 hx hb hts hown hK hT hS h_a (k := 13) rfl trivial fl_X9_71 (fun _ h9 => h9) rfl rfl rfl dX9_land_35 (fun H locs G_10 eG_10 hT hS => ?_)
    have hF := hF.wI eG_10 h_a rfl
    refine lv_aload_nN hx hb dX9_land_38 rfl (lv_at hl 0 rfl) ?_
    refine lv_ifnonnullN hx hb dX9_land_39 ?_
    refine lv_bipush (v := (-4)) hx hb dX9_land_42 (by decide) ?_
    exact ret_i hx hb hr hlocks ⟨⟨hS.1, hS.2.1⟩, τ, G_10, hE, (hF0.tr (hF.dn hE) rfl), ⟨_, rfl, trivial⟩, hT⟩ hS.2.2 (Nat.le_of_ble_eq_true rfl) (Nat.le_of_ble_eq_true rfl) dX9_land_44
  · skip
    refine W.eq (g2 := F0 m 15 ls [.ref q_4]) rfl ?_
    refine lv_astore_n (lv' := [(1, .ref q_4), (0, .ref a)]) hx hb dX9_land_15 rfl hl (by decide) rfl (fun ls hl => ?_)
    refine lv_aload_n hx hb dX9_land_16 rfl (lv_at hl 1 rfl) ?_
    refine lv_aload_n hx hb dX9_land_17 rfl (lv_at hl 1 rfl) ?_
    refine t_getr cf_1 hx hb hts hown hK hT h_a (k := 1) (P := fun q => τ q = 2) rfl (fun _ h9 => h9) fl_X9_16 (fun _ h9 => h9) dX9_land_18 (fun q_11 eq_11 hq_11 => ?_)
    refine t_geti cf_2 hx hb hts hown hK hT hq_11 (k := 0) rfl fl_X9_86 (fun _ h9 => h9) dX9_land_21 (fun z_12 ez_12 rz_12 => ?_)
    have ez_12 : z_12 = G.1 q_11 0 := ez_12
    refine t_puti (x := z_12) cf_1 hx hb hts hown hK hT hS h_a (k := 12) rfl trivial fl_X9_89 (fun _ h9 => h9) rfl rfl rfl dX9_land_24 (fun H locs G_13 eG_13 hT hS => ?_)
    have hF := hF.wI eG_13 h_a rfl
    refine lv_aload_n hx hb dX9_land_27 rfl (lv_at hl 1 rfl) ?_
    refine lv_aload_n hx hb dX9_land_28 rfl (lv_at hl 1 rfl) ?_
    refine t_getr cf_1 hx hb hts hown hK hT h_a (k := 1) (P := fun q => τ q = 2) rfl (fun _ h9 => h9) fl_X9_16 (fun _ h9 => h9) dX9_land_29 (fun q_14 eq_14 hq_14 => ?_)
    refine t_geti cf_2 hx hb hts hown hK hT hq_14 (k := 1) rfl fl_X9_92 (fun _ h9 => h9) dX9_land_32 (fun z_15 ez_15 rz_15 => ?_)
    have ez_15 : z_15 = G_13.1 q_14 1 := ez_15
    refine t_puti (x := z_15) cf_1 hx hb hts hown hK hT hS h_a (k := 13) rfl trivial fl_X9_71 (fun _ h9 => h9) rfl rfl rfl dX9_land_35 (fun H locs G_16 eG_16 hT hS => ?_)
    have hF := hF.wI eG_16 h_a rfl
    refine lv_aload_n hx hb dX9_land_38 rfl (lv_at hl 0 rfl) ?_
    refine lv_ifnonnull (tgt := 45) hx hb dX9_land_39 (by decide) ?_
    refine lv_aload_n hx hb dX9_land_45 rfl (lv_at hl 1 rfl) ?_
    refine lv_aload_n hx hb dX9_land_46 rfl (lv_at hl 0 rfl) ?_
    refine t_putr cf_1 hx hb hts hown hK hT hS h_a (k := 10) rfl ⟨_, rfl, hq_4⟩ fl_X9_67 (fun _ h9 => h9) rfl rfl rfl dX9_land_47 (fun H locs G_17 eG_17 hT hS => ?_)
    have hF := hF.wR eG_17 h_a rfl
    refine lv_aload_n hx hb dX9_land_50 rfl (lv_at hl 1 rfl) ?_
    refine lv_null hx hb dX9_land_51 ?_
    refine t_putn cf_1 hx hb hts hown hK hT hS h_a (k := 11) rfl (Or.inl rfl) fl_X9_93 (fun _ h9 => h9) rfl rfl rfl dX9_land_52 (fun H locs G_18 eG_18 hT hS => ?_)
    have hF := hF.wR eG_18 h_a rfl
    refine lv_aload_n hx hb dX9_land_55 rfl (lv_at hl 1 rfl) ?_
    refine lv_iconst (v := 0) hx hb dX9_land_56 (by decide) ?_
    refine t_puti (x := 0) cf_1 hx hb hts hown hK hT hS h_a (k := 9) rfl (show 0 ≤ (0 : Int32).toInt ∧ (0 : Int32).toInt ≤ 1600 from by decide) fl_X9_75 (fun _ h9 => h9) rfl rfl rfl dX9_land_57 (fun H locs G_19 eG_19 hT hS => ?_)
    have hF := hF.wI eG_19 h_a rfl
    refine lv_aload_n hx hb dX9_land_60 rfl (lv_at hl 1 rfl) ?_
    refine t_getr cf_1 hx hb hts hown hK hT h_a (k := 10) (P := fun q => τ q = 7) rfl (fun _ h9 => h9) fl_X9_67 (fun _ h9 => h9) dX9_land_61 (fun q_20 eq_20 hq_20 => ?_)
    refine t_geti cf_7 hx hb hts hown hK hT hq_20 (k := 0) rfl fl_X9_96 (fun _ h9 => h9) dX9_land_64 (fun z_21 ez_21 rz_21 => ?_)
    have ez_21 : z_21 = G_19.1 q_20 0 := ez_21
    exact ret_i hx hb hr hlocks ⟨⟨hS.1, hS.2.1⟩, τ, G_19, hE, (hF0.tr (hF.dn hE) rfl), ⟨_, rfl, trivial⟩, hT⟩ hS.2.2 (Nat.le_of_ble_eq_true rfl) (Nat.le_of_ble_eq_true rfl) dX9_land_67
set_option maxHeartbeats 4000000 in
set_option maxRecDepth 100000 in
theorem t_X9_run (l : Launch) (D : va_G) (cy : Nat → ClassId) (base : Nat) (τ : Nat → Nat) (G : Gh)  (a : Nat) (h_a : τ a = 1) (v0 : Int32) : MM l yX9_run cX9_run 3 (some .int) 2 1 6 D cy [.ref a, .int v0] (PT D cy base τ G) (QE D cy base τ G [6, 25, 1001] (fun v τ1 g => ∃ r : Int32, v = some (.int r) ∧ (True))) (RA base) := by
  refine MM.of (by decide) (Nat.le_of_ble_eq_true rfl) ?_
  intro p e s m below meth c C hPT ls hl
  obtain ⟨hx, hb, hr, hml, hown, hts, hlocks, hK, hnm⟩ := C
  obtain ⟨hZ, hT⟩ := hPT
  have hS : va_S (RA base) s.heap s.heap [] := va_S.rf
  have hF : Fr τ [6, 25, 1001] G G := Fr.rf
  have hl : lv_has ls 3 [(0, .ref a), (1, .int v0)] := hl
  refine lv_iload_n hx hb dX9_run_0 rfl (lv_at hl 1 rfl) ?_
  refine pu_calli (runS (As := [.int v0]) (rest := []) ⟨hx, hb, hml, hown, hts⟩ (t_X9_isSeed l D cy base τ G v0) sS_X9_301 hK ⟨Nat.le_trans hZ hS.1, hT⟩ ⟨Nat.le_of_ble_eq_true rfl, Nat.le_of_ble_eq_true rfl⟩ rfl hl.1 rfl (Nat.le_of_ble_eq_true rfl) dX9_run_1 ⟨Nat.le_of_ble_eq_true rfl, Nat.le_of_ble_eq_true rfl⟩) (fun r_1 hr_1 => ?_)
  have hr_1_c := hr_1
  rcases hr_1_c with hr_1_0 | hr_1_1
  · skip
    obtain ⟨er_1, hr_1_0_f0, hr_1_0_f1⟩ := hr_1_0
    have hr_1_0_f0 : 0 ≤ v0.toInt := hr_1_0_f0
    have hr_1_0_f1 : v0.toInt ≤ 2000000000 := hr_1_0_f1
    subst er_1
    refine W.eq (g2 := F0 m 4 ls [.int 1]) rfl ?_
    refine lv_if_eq (tgt := 17) hx hb dX9_run_4 (by decide) (fun c_2 => absurd c_2 (by decide)) (fun _ => ?_)
    refine lv_aload_n hx hb dX9_run_7 rfl (lv_at hl 0 rfl) ?_
    refine t_getr cf_1 hx hb hts hown hK hT h_a (k := 10) (P := fun q => τ q = 7) rfl (fun _ h9 => h9) fl_X9_67 (fun _ h9 => h9) dX9_run_8 (fun q_3 eq_3 hq_3 => ?_)
    refine t_geti cf_7 hx hb hts hown hK hT hq_3 (k := 1) rfl fl_X9_155 (fun _ h9 => h9) dX9_run_11 (fun z_4 ez_4 rz_4 => ?_)
    have ez_4 : z_4 = G.1 q_3 1 := ez_4
    have rz_4 : 0 ≤ z_4.toInt ∧ z_4.toInt ≤ 60 := rz_4
    refine lv_if_ne (tgt := 20) hx hb dX9_run_14 (by decide) (fun c_5 => ?_) (fun c_5 => ?_)
    · skip
      have tc_5 : ¬ z_4.toInt = 0 := fun h => c_5 ((fa_eq _ _).mpr h)
      refine lv_bipush (v := 6) hx hb dX9_run_20 (by decide) ?_
      refine t_newp (atype := .int) (ty := .int) (cA := cy 1) (a0 := (6, .inl (fun _ => 0))) 1 hx hb hts ac_int rfl hK rfl (fun _ h9 => h9) hT hS hZ (fun _ => rfl) (by decide) (by decide) (by decide) (Nat.le_of_ble_eq_true rfl) (Nat.le_of_ble_eq_true rfl) dX9_run_22 (fun q_6 H hX hS => ?_)
      obtain ⟨τ, G, hE, hFa, hq_6, hX0, hT⟩ := ab_int6 hX
      have hF0 := hF.tr hFa rfl
      have h_a_o := h_a
      have h_a : τ a = 1 := hE.tg h_a (by decide)
      have hF : Fr τ [6, 25, 1001] G G := Fr.rf
      refine lv_astore_n (lv' := [(2, .ref q_6), (0, .ref a), (1, .int v0)]) hx hb dX9_run_24 rfl hl (by decide) rfl (fun ls hl => ?_)
      refine lv_aload_n hx hb dX9_run_25 rfl (lv_at hl 1 rfl) ?_
      refine t_getr cf_1 hx hb hts hown hK hT h_a (k := 5) (P := fun q => τ q = 6) rfl (fun _ h9 => h9) fl_X9_44 (fun _ h9 => h9) dX9_run_26 (fun q_7 eq_7 hq_7 => ?_)
      refine lv_aload_n hx hb dX9_run_29 rfl (lv_at hl 1 rfl) ?_
      refine t_getr cf_1 hx hb hts hown hK hT h_a (k := 10) (P := fun q => τ q = 7) rfl (fun _ h9 => h9) fl_X9_67 (fun _ h9 => h9) dX9_run_30 (fun q_8 eq_8 hq_8 => ?_)
      refine lv_iload_n hx hb dX9_run_33 rfl (lv_at hl 2 rfl) ?_
      refine lv_aload_n hx hb dX9_run_34 rfl (lv_at hl 0 rfl) ?_
      refine t_callv (runV (As := [.ref q_8, .int v0, .ref q_6]) (rest := []) ⟨hx, hb, hml, hown, hts⟩ (t_X0_drawYear l D cy base τ G q_7 hq_7 q_8 hq_8 v0 q_6 hq_6) sV_X9_304 hK (t_recv cf_6 hK hT hq_7) ⟨Nat.le_trans hZ hS.1, hT⟩ ⟨Nat.le_of_ble_eq_true rfl, Nat.le_of_ble_eq_true rfl⟩ rfl hl.1 rfl (Nat.le_of_ble_eq_true rfl) dX9_run_35 ⟨Nat.le_of_ble_eq_true rfl, Nat.le_of_ble_eq_true rfl⟩) hS (fun G_9 H locs hF_9 hr_9 hT hS => ?_)
      have hF := hF.tr hF_9 rfl
      refine lv_aload_n hx hb dX9_run_38 rfl (lv_at hl 1 rfl) ?_
      refine lv_aload_n hx hb dX9_run_39 rfl (lv_at hl 0 rfl) ?_
      refine t_putr cf_1 hx hb hts hown hK hT hS h_a (k := 11) rfl (Or.inr ⟨_, rfl, hq_6⟩) fl_X9_93 (fun _ h9 => h9) rfl rfl rfl dX9_run_40 (fun H locs G_10 eG_10 hT hS => ?_)
      have hF := hF.wR eG_10 h_a rfl
      refine lv_aload_n hx hb dX9_run_43 rfl (lv_at hl 1 rfl) ?_
      refine t_getr cf_1 hx hb hts hown hK hT h_a (k := 10) (P := fun q => τ q = 7) rfl (fun _ h9 => h9) fl_X9_67 (fun _ h9 => h9) dX9_run_44 (fun q_11 eq_11 hq_11 => ?_)
      refine lv_aload_n hx hb dX9_run_47 rfl (lv_at hl 0 rfl) ?_
      refine pu_calli (runV (As := [.ref q_6]) (rest := []) ⟨hx, hb, hml, hown, hts⟩ (t_X2_roadsShut l D cy base τ G_10 q_11 hq_11 q_6 hq_6) sV_X9_308 hK (t_recv cf_7 hK hT hq_11) ⟨Nat.le_trans hZ hS.1, hT⟩ ⟨Nat.le_of_ble_eq_true rfl, Nat.le_of_ble_eq_true rfl⟩ rfl hl.1 rfl (Nat.le_of_ble_eq_true rfl) dX9_run_48 ⟨Nat.le_of_ble_eq_true rfl, Nat.le_of_ble_eq_true rfl⟩) (fun r_12 hr_12 => ?_)
      exact ret_i hx hb hr hlocks ⟨⟨hS.1, hS.2.1⟩, τ, G_10, hE, (hF0.tr (hF.dn hE) rfl), ⟨_, rfl, trivial⟩, hT⟩ hS.2.2 (Nat.le_of_ble_eq_true rfl) (Nat.le_of_ble_eq_true rfl) dX9_run_51
    · skip
      have tc_5 : z_4.toInt = 0 := (fa_eq _ _).mp c_5
      refine lv_bipush (v := (-2)) hx hb dX9_run_17 (by decide) ?_
      exact ret_i hx hb hr hlocks ⟨⟨hS.1, hS.2.1⟩, τ, G, EX.rf, hF, ⟨_, rfl, trivial⟩, hT⟩ hS.2.2 (Nat.le_of_ble_eq_true rfl) (Nat.le_of_ble_eq_true rfl) dX9_run_19
  · skip
    have er_1 := hr_1_1
    subst er_1
    refine W.eq (g2 := F0 m 4 ls [.int 0]) rfl ?_
    refine lv_if_eq (tgt := 17) hx hb dX9_run_4 (by decide) (fun _ => ?_) (fun c_13 => absurd (by decide) c_13)
    refine lv_bipush (v := (-2)) hx hb dX9_run_17 (by decide) ?_
    exact ret_i hx hb hr hlocks ⟨⟨hS.1, hS.2.1⟩, τ, G, EX.rf, hF, ⟨_, rfl, trivial⟩, hT⟩ hS.2.2 (Nat.le_of_ble_eq_true rfl) (Nat.le_of_ble_eq_true rfl) dX9_run_19
set_option maxHeartbeats 4000000 in
set_option maxRecDepth 100000 in
theorem t_X2_yearOf (l : Launch) (D : va_G) (cy : Nat → ClassId) (base : Nat) (τ : Nat → Nat) (G : Gh)  (a : Nat) (h_a : τ a = 7) (b : Nat) (h_b : τ b = 40) : MM l yX2_yearOf cX2_yearOf 5 (some (.array .int)) 0 1 6 D cy [.ref a, .ref b] (PT D cy base τ G) (QE D cy base τ G [25] (fun v τ1 g => ∃ q, v = some (.ref q) ∧ τ1 q = 25)) (RA base) := by
  refine MM.of (by decide) (Nat.le_of_ble_eq_true rfl) ?_
  intro p e s m below meth c C hPT ls hl
  obtain ⟨hx, hb, hr, hml, hown, hts, hlocks, hK, hnm⟩ := C
  obtain ⟨hZ, hT⟩ := hPT
  have hS : va_S (RA base) s.heap s.heap [] := va_S.rf
  have hF : Fr τ [25] G G := Fr.rf
  have hl : lv_has ls 5 [(0, .ref a), (1, .ref b)] := hl
  refine lv_bipush (v := 6) hx hb dX2_yearOf_0 (by decide) ?_
  refine t_newp (atype := .int) (ty := .int) (cA := cy 1) (a0 := (6, .inl (fun _ => 0))) 1 hx hb hts ac_int rfl hK rfl (fun _ h9 => h9) hT hS hZ (fun _ => rfl) (by decide) (by decide) (by decide) (Nat.le_of_ble_eq_true rfl) (Nat.le_of_ble_eq_true rfl) dX2_yearOf_2 (fun q_1 H hX hS => ?_)
  obtain ⟨τ, G, hE, hFa, hq_1, hX0, hT⟩ := ab_int6 hX
  have hF0 := hF.tr hFa rfl
  have h_a_o := h_a
  have h_a : τ a = 7 := hE.tg h_a (by decide)
  have h_b_o := h_b
  have h_b : τ b = 40 := hE.tg h_b (by decide)
  have hF : Fr τ [25] G G := Fr.rf
  refine lv_astore_n (lv' := [(2, .ref q_1), (0, .ref a), (1, .ref b)]) hx hb dX2_yearOf_4 rfl hl (by decide) rfl (fun ls hl => ?_)
  refine lv_iconst (v := 0) hx hb dX2_yearOf_5 (by decide) ?_
  refine lv_istore_n (lv' := [(3, .int 0), (2, .ref q_1), (0, .ref a), (1, .ref b)]) hx hb dX2_yearOf_6 rfl hl (by decide) rfl (fun ls hl => ?_)
  refine W.loop (σ := Int32 × Gh) (fun w2 H locs ls => 0 ≤ w2.1.toInt ∧ w2.1.toInt ≤ 60 ∧ Fr τ [25] G w2.2 ∧ TY D cy base τ w2.2 H ∧ va_S (RA base) s.heap H locs ∧ lv_has ls 5 [(3, .int w2.1), (2, .ref q_1), (0, .ref a), (1, .ref b)]) (fun w2 => (60 - w2.1.toInt).toNat) ?_ ((0 : Int32), G) _ _ _ ⟨(by show 0 ≤ (0 : Int32).toInt; decide), (by show (0 : Int32).toInt ≤ 60; decide), hF, hT, hS, lv_sub hl [0, 1, 2, 3] rfl⟩
  intro w2 H locs ls hI ih2
  obtain ⟨x2_3, G_2⟩ := w2
  obtain ⟨i2_0, i2_1, hF, hT, hS, hl⟩ := hI
  have i2_0 : 0 ≤ x2_3.toInt := i2_0
  have i2_1 : x2_3.toInt ≤ 60 := i2_1
  have hF : Fr τ [25] G G_2 := hF
  have hT : TY D cy base τ G_2 H := hT
  have hS : va_S (RA base) s.heap H locs := hS
  have hl : lv_has ls 5 [(3, .int x2_3), (2, .ref q_1), (0, .ref a), (1, .ref b)] := hl
  refine lv_iload_n hx hb dX2_yearOf_7 rfl (lv_at hl 0 rfl) ?_
  refine lv_aload_n hx hb dX2_yearOf_8 rfl (lv_at hl 3 rfl) ?_
  obtain ⟨n_3, en_3⟩ : ∃ y : Nat, y = G.2.2.2 b := ⟨_, rfl⟩
  have rn_3 : n_3 ≤ 60 := by rw [en_3]; rw [← hF.n h_b (by decide)]; exact hT.len h_b (by decide)
  refine t_alen (v := Int32.ofNat n_3) rfl (by decide) hx hb hK hT h_b rfl (by rw [show _ = n_3 from ((hF.n h_b (by decide)).trans en_3.symm)]) dX2_yearOf_9 ?_
  refine lv_topi (fun z_4 ez_4 => ?_)
  have tz_4 : z_4.toInt = n_3 := len_t ez_4 (by omega)
  refine lv_icmp_ge (tgt := 71) hx hb dX2_yearOf_10 (by decide) (fun c_5 => ?_) (fun c_5 => ?_)
  · skip
    have tc_5 : z_4.toInt ≤ x2_3.toInt := (fa_le _ _).mp c_5
    refine lv_aload_n hx hb dX2_yearOf_71 rfl (lv_at hl 1 rfl) ?_
    exact ret_a hx hb hr (Or.inr ⟨_, rfl⟩) (Or.inr ⟨_, rfl⟩) hlocks ⟨⟨hS.1, hS.2.1⟩, τ, G_2, hE, (hF0.tr (hF.dn hE) rfl), ⟨_, rfl, hq_1⟩, hT⟩ hS.2.2 (Nat.le_of_ble_eq_true rfl) (Nat.le_of_ble_eq_true rfl) dX2_yearOf_72
  · skip
    have tc_5 : ¬ z_4.toInt ≤ x2_3.toInt := fun h => c_5 ((fa_le _ _).mpr h)
    refine lv_iconst (v := 0) hx hb dX2_yearOf_13 (by decide) ?_
    refine lv_istore (lv' := [(4, .int 0), (3, .int x2_3), (2, .ref q_1), (0, .ref a), (1, .ref b)]) hx hb dX2_yearOf_14 hl (by decide) rfl (fun ls hl => ?_)
    refine W.loop (σ := Int32 × Gh) (fun w6 H locs ls => 0 ≤ w6.1.toInt ∧ w6.1.toInt ≤ 6 ∧ Fr τ [25] G w6.2 ∧ TY D cy base τ w6.2 H ∧ va_S (RA base) s.heap H locs ∧ lv_has ls 5 [(4, .int w6.1), (3, .int x2_3), (2, .ref q_1), (0, .ref a), (1, .ref b)]) (fun w6 => (6 - w6.1.toInt).toNat) ?_ ((0 : Int32), G_2) _ _ _ ⟨(by show 0 ≤ (0 : Int32).toInt; decide), (by show (0 : Int32).toInt ≤ 6; decide), hF, hT, hS, lv_sub hl [0, 1, 2, 3, 4] rfl⟩
    intro w6 H locs ls hI ih6
    obtain ⟨x6_4, G_6⟩ := w6
    obtain ⟨i6_0, i6_1, hF, hT, hS, hl⟩ := hI
    have i6_0 : 0 ≤ x6_4.toInt := i6_0
    have i6_1 : x6_4.toInt ≤ 6 := i6_1
    have hF : Fr τ [25] G G_6 := hF
    have hT : TY D cy base τ G_6 H := hT
    have hS : va_S (RA base) s.heap H locs := hS
    have hl : lv_has ls 5 [(4, .int x6_4), (3, .int x2_3), (2, .ref q_1), (0, .ref a), (1, .ref b)] := hl
    refine lv_iload hx hb dX2_yearOf_16 (lv_at hl 0 rfl) ?_
    refine lv_aload_n hx hb dX2_yearOf_18 rfl (lv_at hl 3 rfl) ?_
    refine t_geti cf_7 hx hb hts hown hK hT h_a (k := 6) rfl fl_X2_40 (fun _ h9 => h9) dX2_yearOf_19 (fun z_7 ez_7 rz_7 => ?_)
    have ez_7 : z_7 = G_6.1 a 6 := ez_7
    have rz_7 : 0 ≤ z_7.toInt ∧ z_7.toInt ≤ 6 := rz_7
    have ez_7 : z_7 = G.1 a 6 := ez_7.trans (hF.i h_a (by decide) rfl _)
    refine lv_icmp_ge (tgt := 65) hx hb dX2_yearOf_22 (by decide) (fun c_8 => ?_) (fun c_8 => ?_)
    · skip
      have tc_8 : z_7.toInt ≤ x6_4.toInt := (fa_le _ _).mp c_8
      obtain ⟨z_9, ez_9⟩ : ∃ y : Int32, y = x2_3 + 1 := ⟨_, rfl⟩
      have tz_9 : z_9.toInt = x2_3.toInt + 1 := add_t ez_9 (show -2147483648 ≤ x2_3.toInt + 1 by omega) (show x2_3.toInt + 1 < 2147483648 by omega)
      refine lv_iinc (v := z_9) (lv' := [(3, .int z_9), (4, .int x6_4), (2, .ref q_1), (0, .ref a), (1, .ref b)]) hx hb dX2_yearOf_65 hl (k := 1) rfl (by rw [ez_9]; rfl) (by decide) rfl (fun ls hl => ?_)
      refine lv_goto (tgt := 7) hx hb dX2_yearOf_68 (by decide) ?_
      exact ih2 (z_9, G_6) _ _ _ (by show (60 - z_9.toInt).toNat < (60 - x2_3.toInt).toNat; omega) ⟨(by show 0 ≤ z_9.toInt; omega), (by show z_9.toInt ≤ 60; omega), hF, hT, hS, lv_sub hl [0, 2, 3, 4] rfl⟩
    · skip
      have tc_8 : ¬ z_7.toInt ≤ x6_4.toInt := fun h => c_8 ((fa_le _ _).mpr h)
      refine lv_iload hx hb dX2_yearOf_25 (lv_at hl 0 rfl) ?_
      refine lv_bipush (v := 6) hx hb dX2_yearOf_27 (by decide) ?_
      refine lv_icmp_ge (tgt := 65) hx hb dX2_yearOf_29 (by decide) (fun c_10 => ?_) (fun c_10 => ?_)
      · skip
        have tc_10 : 6 ≤ x6_4.toInt := (fa_le _ _).mp c_10
        exfalso; omega
      · skip
        have tc_10 : ¬ 6 ≤ x6_4.toInt := fun h => c_10 ((fa_le _ _).mpr h)
        refine lv_aload_n hx hb dX2_yearOf_32 rfl (lv_at hl 2 rfl) ?_
        refine lv_iload hx hb dX2_yearOf_33 (lv_at hl 0 rfl) ?_
        refine t_iald (n := 6) (i := x6_4) rfl (by decide) hx hb hK hT hq_1 (hT.len hq_1 (by decide)) ⟨by omega, by omega⟩ dX2_yearOf_35 (fun z_11 ez_11 rz_11 => ?_)
        refine lv_if_ne (tgt := 59) hx hb dX2_yearOf_36 (by decide) (fun c_12 => ?_) (fun c_12 => ?_)
        · skip
          have tc_12 : ¬ z_11.toInt = 0 := fun h => c_12 ((fa_eq _ _).mpr h)
          obtain ⟨z_13, ez_13⟩ : ∃ y : Int32, y = x6_4 + 1 := ⟨_, rfl⟩
          have tz_13 : z_13.toInt = x6_4.toInt + 1 := add_t ez_13 (show -2147483648 ≤ x6_4.toInt + 1 by omega) (show x6_4.toInt + 1 < 2147483648 by omega)
          refine lv_iinc (v := z_13) (lv' := [(4, .int z_13), (3, .int x2_3), (2, .ref q_1), (0, .ref a), (1, .ref b)]) hx hb dX2_yearOf_59 hl (k := 0) rfl (by rw [ez_13]; rfl) (by decide) rfl (fun ls hl => ?_)
          refine lv_goto (tgt := 16) hx hb dX2_yearOf_62 (by decide) ?_
          exact ih6 (z_13, G_6) _ _ _ (by show (6 - z_13.toInt).toNat < (6 - x6_4.toInt).toNat; omega) ⟨(by show 0 ≤ z_13.toInt; omega), (by show z_13.toInt ≤ 6; omega), hF, hT, hS, lv_sub hl [0, 1, 2, 3, 4] rfl⟩
        · skip
          have tc_12 : z_11.toInt = 0 := (fa_eq _ _).mp c_12
          refine lv_aload_n hx hb dX2_yearOf_39 rfl (lv_at hl 4 rfl) ?_
          refine lv_iload_n hx hb dX2_yearOf_40 rfl (lv_at hl 1 rfl) ?_
          refine t_lald (n := n_3) (i := x2_3) rfl (by decide) hx hb hK hT h_b ((hF.n h_b (by decide)).trans en_3.symm) ⟨by omega, by omega⟩ dX2_yearOf_41 (fun z_14 ez_14 => ?_)
          have ez_14 := ez_14.trans (hF.l h_b (by decide) rfl _)
          refine lv_iload hx hb dX2_yearOf_42 (lv_at hl 0 rfl) ?_
          refine lv_lshr hx hb dX2_yearOf_44 rfl ?_
          refine lv_topl (fun z_15 ez_15 => ?_)
          refine lv_lconst (v := 1) hx hb dX2_yearOf_45 (by decide) ?_
          refine lv_land hx hb dX2_yearOf_46 ?_
          refine lv_topl (fun z_16 ez_16 => ?_)
          refine lv_lconst (v := 1) hx hb dX2_yearOf_47 (by decide) ?_
          refine W.lcmp hx hb dX2_yearOf_48 ?_
          refine lv_topi (fun z_17 ez_17 => ?_)
          have tz_17 : (z_17.toInt < 0 ↔ z_16.toInt < 1) ∧ (0 < z_17.toInt ↔ 1 < z_16.toInt) ∧ -1 ≤ z_17.toInt ∧ z_17.toInt ≤ 1 := cmp_t ez_17
          refine lv_if_ne (tgt := 59) hx hb dX2_yearOf_49 (by decide) (fun c_18 => ?_) (fun c_18 => ?_)
          · skip
            have tc_18 : ¬ z_17.toInt = 0 := fun h => c_18 ((fa_eq _ _).mpr h)
            obtain ⟨z_19, ez_19⟩ : ∃ y : Int32, y = x6_4 + 1 := ⟨_, rfl⟩
            have tz_19 : z_19.toInt = x6_4.toInt + 1 := add_t ez_19 (show -2147483648 ≤ x6_4.toInt + 1 by omega) (show x6_4.toInt + 1 < 2147483648 by omega)
            refine lv_iinc (v := z_19) (lv' := [(4, .int z_19), (3, .int x2_3), (2, .ref q_1), (0, .ref a), (1, .ref b)]) hx hb dX2_yearOf_59 hl (k := 0) rfl (by rw [ez_19]; rfl) (by decide) rfl (fun ls hl => ?_)
            refine lv_goto (tgt := 16) hx hb dX2_yearOf_62 (by decide) ?_
            exact ih6 (z_19, G_6) _ _ _ (by show (6 - z_19.toInt).toNat < (6 - x6_4.toInt).toNat; omega) ⟨(by show 0 ≤ z_19.toInt; omega), (by show z_19.toInt ≤ 6; omega), hF, hT, hS, lv_sub hl [0, 1, 2, 3, 4] rfl⟩
          · skip
            have tc_18 : z_17.toInt = 0 := (fa_eq _ _).mp c_18
            refine lv_aload_n hx hb dX2_yearOf_52 rfl (lv_at hl 2 rfl) ?_
            refine lv_iload hx hb dX2_yearOf_53 (lv_at hl 0 rfl) ?_
            refine lv_iload_n hx hb dX2_yearOf_55 rfl (lv_at hl 1 rfl) ?_
            refine lv_iconst (v := 1) hx hb dX2_yearOf_56 (by decide) ?_
            refine lv_iadd hx hb dX2_yearOf_57 ?_
            refine lv_topi (fun z_20 ez_20 => ?_)
            have tz_20 : z_20.toInt = x2_3.toInt + 1 := add_t ez_20 (show -2147483648 ≤ x2_3.toInt + 1 by omega) (show x2_3.toInt + 1 < 2147483648 by omega)
            refine t_iast (n := 6) (i := x6_4) (x := z_20) rfl (by decide) hx hb hK hT hS hq_1 (hT.len hq_1 (by decide)) ⟨by omega, by omega⟩ trivial dX2_yearOf_58 (fun H locs G_21 eG_21 hT hS => ?_)
            have hF := hF.wI eG_21 hq_1 rfl
            obtain ⟨z_22, ez_22⟩ : ∃ y : Int32, y = x6_4 + 1 := ⟨_, rfl⟩
            have tz_22 : z_22.toInt = x6_4.toInt + 1 := add_t ez_22 (show -2147483648 ≤ x6_4.toInt + 1 by omega) (show x6_4.toInt + 1 < 2147483648 by omega)
            refine lv_iinc (v := z_22) (lv' := [(4, .int z_22), (3, .int x2_3), (2, .ref q_1), (0, .ref a), (1, .ref b)]) hx hb dX2_yearOf_59 hl (k := 0) rfl (by rw [ez_22]; rfl) (by decide) rfl (fun ls hl => ?_)
            refine lv_goto (tgt := 16) hx hb dX2_yearOf_62 (by decide) ?_
            exact ih6 (z_22, G_21) _ _ _ (by show (6 - z_22.toInt).toNat < (6 - x6_4.toInt).toNat; omega) ⟨(by show 0 ≤ z_22.toInt; omega), (by show z_22.toInt ≤ 6; omega), hF, hT, hS, lv_sub hl [0, 1, 2, 3, 4] rfl⟩
set_option maxHeartbeats 4000000 in
set_option maxRecDepth 100000 in
theorem t_X9_told (l : Launch) (D : va_G) (cy : Nat → ClassId) (base : Nat) (τ : Nat → Nat) (G : Gh)  (a : Nat) (h_a : τ a = 1) (v0 : Int32) : MM l yX9_told cX9_told 3 (some .int) 1 1 6 D cy [.ref a, .int v0] (PT D cy base τ G) (QE D cy base τ G [25, 1001] (fun v τ1 g => ∃ r : Int32, v = some (.int r) ∧ (True))) (RA base) := by
  refine MM.of (by decide) (Nat.le_of_ble_eq_true rfl) ?_
  intro p e s m below meth c C hPT ls hl
  obtain ⟨hx, hb, hr, hml, hown, hts, hlocks, hK, hnm⟩ := C
  obtain ⟨hZ, hT⟩ := hPT
  have hS : va_S (RA base) s.heap s.heap [] := va_S.rf
  have hF : Fr τ [25, 1001] G G := Fr.rf
  have hl : lv_has ls 3 [(0, .ref a), (1, .int v0)] := hl
  refine lv_iload_n hx hb dX9_told_0 rfl (lv_at hl 1 rfl) ?_
  refine pu_calli (runS (As := [.int v0]) (rest := []) ⟨hx, hb, hml, hown, hts⟩ (t_X9_isSlot l D cy base τ G v0) sS_X9_312 hK ⟨Nat.le_trans hZ hS.1, hT⟩ ⟨Nat.le_of_ble_eq_true rfl, Nat.le_of_ble_eq_true rfl⟩ rfl hl.1 rfl (Nat.le_of_ble_eq_true rfl) dX9_told_1 ⟨Nat.le_of_ble_eq_true rfl, Nat.le_of_ble_eq_true rfl⟩) (fun r_1 hr_1 => ?_)
  have hr_1_c := hr_1
  rcases hr_1_c with hr_1_0 | hr_1_1
  · skip
    obtain ⟨er_1, hr_1_0_f0, hr_1_0_f1⟩ := hr_1_0
    have hr_1_0_f0 : 0 ≤ v0.toInt := hr_1_0_f0
    have hr_1_0_f1 : v0.toInt ≤ 3 := hr_1_0_f1
    subst er_1
    refine W.eq (g2 := F0 m 4 ls [.int 1]) rfl ?_
    refine lv_if_eq (tgt := 17) hx hb dX9_told_4 (by decide) (fun c_2 => absurd c_2 (by decide)) (fun _ => ?_)
    refine lv_aload_n hx hb dX9_told_7 rfl (lv_at hl 0 rfl) ?_
    refine t_getr cf_1 hx hb hts hown hK hT h_a (k := 10) (P := fun q => τ q = 7) rfl (fun _ h9 => h9) fl_X9_67 (fun _ h9 => h9) dX9_told_8 (fun q_3 eq_3 hq_3 => ?_)
    refine t_geti cf_7 hx hb hts hown hK hT hq_3 (k := 1) rfl fl_X9_155 (fun _ h9 => h9) dX9_told_11 (fun z_4 ez_4 rz_4 => ?_)
    have ez_4 : z_4 = G.1 q_3 1 := ez_4
    have rz_4 : 0 ≤ z_4.toInt ∧ z_4.toInt ≤ 60 := rz_4
    refine lv_if_ne (tgt := 20) hx hb dX9_told_14 (by decide) (fun c_5 => ?_) (fun c_5 => ?_)
    · skip
      have tc_5 : ¬ z_4.toInt = 0 := fun h => c_5 ((fa_eq _ _).mpr h)
      refine lv_aload_n hx hb dX9_told_20 rfl (lv_at hl 0 rfl) ?_
      refine t_getr cf_1 hx hb hts hown hK hT h_a (k := 7) (P := fun q => τ q = 23) rfl (fun _ h9 => h9) fl_X9_54 (fun _ h9 => h9) dX9_told_21 (fun q_6 eq_6 hq_6 => ?_)
      refine lv_iload_n hx hb dX9_told_24 rfl (lv_at hl 1 rfl) ?_
      refine t_aald4 (n := 4) (i := v0) (P := fun q => τ q = 9) rfl (by decide) hx hb hK hT hq_6 (hT.len hq_6 (by decide)) ⟨by omega, by omega⟩ (fun _ _ h9 => h9) dX9_told_25 (fun eq_7 => ?_) (fun q_7 eq_7 hq_7 => ?_)
      · skip
        refine lv_astore_nN (lv' := [(2, .null), (0, .ref a), (1, .int v0)]) hx hb dX9_told_26 rfl hl (by decide) rfl (fun ls hl => ?_)
        refine lv_aload_nN hx hb dX9_told_27 rfl (lv_at hl 0 rfl) ?_
        refine lv_ifnonnullN hx hb dX9_told_28 ?_
        refine lv_bipush (v := (-6)) hx hb dX9_told_31 (by decide) ?_
        exact ret_i hx hb hr hlocks ⟨⟨hS.1, hS.2.1⟩, τ, G, EX.rf, hF, ⟨_, rfl, trivial⟩, hT⟩ hS.2.2 (Nat.le_of_ble_eq_true rfl) (Nat.le_of_ble_eq_true rfl) dX9_told_33
      · skip
        refine lv_astore_n (lv' := [(2, .ref q_7), (0, .ref a), (1, .int v0)]) hx hb dX9_told_26 rfl hl (by decide) rfl (fun ls hl => ?_)
        refine lv_aload_n hx hb dX9_told_27 rfl (lv_at hl 0 rfl) ?_
        refine lv_ifnonnull (tgt := 34) hx hb dX9_told_28 (by decide) ?_
        refine lv_aload_n hx hb dX9_told_34 rfl (lv_at hl 0 rfl) ?_
        refine t_getr cf_9 hx hb hts hown hK hT hq_7 (k := 1) (P := fun q => τ q = 40) rfl (fun _ h9 => h9) fl_X9_315 (fun _ h9 => h9) dX9_told_35 (fun q_8 eq_8 hq_8 => ?_)
        obtain ⟨n_9, en_9⟩ : ∃ y : Nat, y = G.2.2.2 q_8 := ⟨_, rfl⟩
        have rn_9 : n_9 ≤ 60 := by rw [en_9]; exact hT.len hq_8 (by decide)
        refine t_alen (v := Int32.ofNat n_9) rfl (by decide) hx hb hK hT hq_8 rfl (by rw [show _ = n_9 from (en_9.symm)]) dX9_told_38 ?_
        refine lv_topi (fun z_10 ez_10 => ?_)
        have tz_10 : z_10.toInt = n_9 := len_t ez_10 (by omega)
        refine lv_aload_n hx hb dX9_told_39 rfl (lv_at hl 1 rfl) ?_
        refine t_getr cf_1 hx hb hts hown hK hT h_a (k := 10) (P := fun q => τ q = 7) rfl (fun _ h9 => h9) fl_X9_67 (fun _ h9 => h9) dX9_told_40 (fun q_11 eq_11 hq_11 => ?_)
        refine t_geti cf_7 hx hb hts hown hK hT hq_11 (k := 1) rfl fl_X9_155 (fun _ h9 => h9) dX9_told_43 (fun z_12 ez_12 rz_12 => ?_)
        have ez_12 : z_12 = G.1 q_11 1 := ez_12
        have rz_12 : 0 ≤ z_12.toInt ∧ z_12.toInt ≤ 60 := rz_12
        refine lv_icmp_gt (tgt := 69) hx hb dX9_told_46 (by decide) (fun c_13 => ?_) (fun c_13 => ?_)
        · skip
          have tc_13 : z_12.toInt < z_10.toInt := (fa_lt _ _).mp c_13
          refine lv_bipush (v := (-2)) hx hb dX9_told_69 (by decide) ?_
          exact ret_i hx hb hr hlocks ⟨⟨hS.1, hS.2.1⟩, τ, G, EX.rf, hF, ⟨_, rfl, trivial⟩, hT⟩ hS.2.2 (Nat.le_of_ble_eq_true rfl) (Nat.le_of_ble_eq_true rfl) dX9_told_71
        · skip
          have tc_13 : ¬ z_12.toInt < z_10.toInt := fun h => c_13 ((fa_lt _ _).mpr h)
          refine lv_aload_n hx hb dX9_told_49 rfl (lv_at hl 0 rfl) ?_
          refine lv_lconst (v := 0) hx hb dX9_told_50 (by decide) ?_
          refine lv_iconst (v := 1) hx hb dX9_told_51 (by decide) ?_
          refine lv_aload_n hx hb dX9_told_52 rfl (lv_at hl 1 rfl) ?_
          refine t_getr cf_1 hx hb hts hown hK hT h_a (k := 10) (P := fun q => τ q = 7) rfl (fun _ h9 => h9) fl_X9_67 (fun _ h9 => h9) dX9_told_53 (fun q_14 eq_14 hq_14 => ?_)
          refine t_geti cf_7 hx hb hts hown hK hT hq_14 (k := 6) rfl fl_X9_137 (fun _ h9 => h9) dX9_told_56 (fun z_15 ez_15 rz_15 => ?_)
          have ez_15 : z_15 = G.1 q_14 6 := ez_15
          have rz_15 : 0 ≤ z_15.toInt ∧ z_15.toInt ≤ 6 := rz_15
          refine lv_ishl hx hb dX9_told_59 ?_
          refine lv_topi (fun z_16 ez_16 => ?_)
          have tz_16 : 1 ≤ z_16.toInt ∧ z_16.toInt ≤ 64 := shl6_t ez_16 (by omega) (by omega)
          refine lv_iconst (v := 1) hx hb dX9_told_60 (by decide) ?_
          refine lv_isub hx hb dX9_told_61 ?_
          refine lv_topi (fun z_17 ez_17 => ?_)
          have tz_17 : z_17.toInt = z_16.toInt - 1 := sub_t ez_17 (show -2147483648 ≤ z_16.toInt - 1 by omega) (show z_16.toInt - 1 < 2147483648 by omega)
          refine lv_i2l hx hb dX9_told_62 rfl ?_
          refine lv_topl (fun z_18 ez_18 => ?_)
          have tz_18 : z_18.toInt = z_17.toInt := by rw [ez_18]; exact wide_t z_17
          refine pu_calli (runV (As := [.long 0, .long z_18]) (rest := []) ⟨hx, hb, hml, hown, hts⟩ (t_X6_within l D cy base τ G q_7 hq_7 0 z_18) sV_X9_319 hK (t_recv cf_9 hK hT hq_7) ⟨Nat.le_trans hZ hS.1, hT⟩ ⟨Nat.le_of_ble_eq_true rfl, Nat.le_of_ble_eq_true rfl⟩ rfl hl.1 rfl (Nat.le_of_ble_eq_true rfl) dX9_told_63 ⟨Nat.le_of_ble_eq_true rfl, Nat.le_of_ble_eq_true rfl⟩) (fun r_19 hr_19 => ?_)
          have hr_19_c := hr_19
          rcases hr_19_c with hr_19_0 | hr_19_1
          · skip
            obtain ⟨er_19, hr_19_0_f0⟩ := hr_19_0
            have hr_19_0_f0 : ∀ q : Nat, G.2.2.1 q_7 1 = some q → ∀ j : Nat, j < G.2.2.2 q → (0 : Int) ≤ (G.2.1 q j).toInt ∧ (G.2.1 q j).toInt ≤ z_18.toInt := hr_19_0_f0
            subst er_19
            refine W.eq (g2 := F0 m 66 ls [.int 1]) rfl ?_
            refine lv_if_ne (tgt := 72) hx hb dX9_told_66 (by decide) (fun _ => ?_) (fun c_20 => absurd c_20 (by decide))
            refine lv_aload_n hx hb dX9_told_72 rfl (lv_at hl 1 rfl) ?_
            refine lv_aload_n hx hb dX9_told_73 rfl (lv_at hl 1 rfl) ?_
            refine t_getr cf_1 hx hb hts hown hK hT h_a (k := 10) (P := fun q => τ q = 7) rfl (fun _ h9 => h9) fl_X9_67 (fun _ h9 => h9) dX9_told_74 (fun q_21 eq_21 hq_21 => ?_)
            refine lv_aload_n hx hb dX9_told_77 rfl (lv_at hl 0 rfl) ?_
            refine t_getr cf_9 hx hb hts hown hK hT hq_7 (k := 1) (P := fun q => τ q = 40) rfl (fun _ h9 => h9) fl_X9_315 (fun _ h9 => h9) dX9_told_78 (fun q_22 eq_22 hq_22 => ?_)
            have w_23 : q_8 = q_22 := Option.some.inj (eq_8.symm.trans eq_22)
            subst w_23
            refine t_calle (runV (As := [.ref q_8]) (rest := [.ref a]) ⟨hx, hb, hml, hown, hts⟩ (t_X2_yearOf l D cy base τ G  q_21 hq_21 q_8 hq_8) sV_X9_323 hK (t_recv cf_7 hK hT hq_21) ⟨Nat.le_trans hZ hS.1, hT⟩ ⟨Nat.le_of_ble_eq_true rfl, Nat.le_of_ble_eq_true rfl⟩ rfl hl.1 rfl (Nat.le_of_ble_eq_true rfl) dX9_told_81 ⟨Nat.le_of_ble_eq_true rfl, Nat.le_of_ble_eq_true rfl⟩) hS (fun v_24 τ G H locs hE hF_24 hp_24 hT hS => ?_)
            have hF0 := hF.tr hF_24 rfl
            have hq_7_o := hq_7
            have hq_7 : τ q_7 = 9 := hE.tg hq_7 (by decide)
            have h_a_o := h_a
            have h_a : τ a = 1 := hE.tg h_a (by decide)
            have hF : Fr τ [25, 1001] G G := Fr.rf
            obtain ⟨q_24, rfl, hq_24⟩ := hp_24
            refine W.eq (g2 := F0 m 84 ls [.ref q_24, .ref a]) rfl ?_
            refine t_putr cf_1 hx hb hts hown hK hT hS h_a (k := 11) rfl (Or.inr ⟨_, rfl, hq_24⟩) fl_X9_93 (fun _ h9 => h9) rfl rfl rfl dX9_told_84 (fun H locs G_25 eG_25 hT hS => ?_)
            have hF := hF.wR eG_25 h_a rfl
            have k_26 : G_25.2.2.1 a 11 = some q_24 := by rw [eG_25, wR_at]
            refine lv_aload_n hx hb dX9_told_87 rfl (lv_at hl 1 rfl) ?_
            refine t_getr cf_1 hx hb hts hown hK hT h_a (k := 10) (P := fun q => τ q = 7) rfl (fun _ h9 => h9) fl_X9_67 (fun _ h9 => h9) dX9_told_88 (fun q_27 eq_27 hq_27 => ?_)
            refine lv_aload_n hx hb dX9_told_91 rfl (lv_at hl 1 rfl) ?_
            refine t_getn cf_1 hx hb hts hown hK hT h_a (k := 11) (P := fun q => τ q = 25) rfl (fun _ h9 => h9) fl_X9_93 (fun _ h9 => h9) dX9_told_92 (fun eq_28 => ?_) (fun q_28 eq_28 hq_28 => ?_)
            · skip
              exact absurd (k_26.symm.trans eq_28) (by simp)
            · skip
              have w_29 : q_24 = q_28 := Option.some.inj (k_26.symm.trans eq_28)
              subst w_29
              refine pu_calli (runV (As := [.ref q_24]) (rest := []) ⟨hx, hb, hml, hown, hts⟩ (t_X2_roadsShut l D cy base τ G_25 q_27 hq_27 q_24 hq_24) sV_X9_308 hK (t_recv cf_7 hK hT hq_27) ⟨Nat.le_trans hZ hS.1, hT⟩ ⟨Nat.le_of_ble_eq_true rfl, Nat.le_of_ble_eq_true rfl⟩ rfl hl.1 rfl (Nat.le_of_ble_eq_true rfl) dX9_told_95 ⟨Nat.le_of_ble_eq_true rfl, Nat.le_of_ble_eq_true rfl⟩) (fun r_30 hr_30 => ?_)
              exact ret_i hx hb hr hlocks ⟨⟨hS.1, hS.2.1⟩, τ, G_25, hE, (hF0.tr (hF.dn hE) rfl), ⟨_, rfl, trivial⟩, hT⟩ hS.2.2 (Nat.le_of_ble_eq_true rfl) (Nat.le_of_ble_eq_true rfl) dX9_told_98
          · skip
            have er_19 := hr_19_1
            subst er_19
            refine W.eq (g2 := F0 m 66 ls [.int 0]) rfl ?_
            refine lv_if_ne (tgt := 72) hx hb dX9_told_66 (by decide) (fun c_31 => absurd rfl c_31) (fun _ => ?_)
            refine lv_bipush (v := (-2)) hx hb dX9_told_69 (by decide) ?_
            exact ret_i hx hb hr hlocks ⟨⟨hS.1, hS.2.1⟩, τ, G, EX.rf, hF, ⟨_, rfl, trivial⟩, hT⟩ hS.2.2 (Nat.le_of_ble_eq_true rfl) (Nat.le_of_ble_eq_true rfl) dX9_told_71
    · skip
      have tc_5 : z_4.toInt = 0 := (fa_eq _ _).mp c_5
      refine lv_bipush (v := (-2)) hx hb dX9_told_17 (by decide) ?_
      exact ret_i hx hb hr hlocks ⟨⟨hS.1, hS.2.1⟩, τ, G, EX.rf, hF, ⟨_, rfl, trivial⟩, hT⟩ hS.2.2 (Nat.le_of_ble_eq_true rfl) (Nat.le_of_ble_eq_true rfl) dX9_told_19
  · skip
    have er_1 := hr_1_1
    subst er_1
    refine W.eq (g2 := F0 m 4 ls [.int 0]) rfl ?_
    refine lv_if_eq (tgt := 17) hx hb dX9_told_4 (by decide) (fun _ => ?_) (fun c_32 => absurd (by decide) c_32)
    refine lv_bipush (v := (-2)) hx hb dX9_told_17 (by decide) ?_
    exact ret_i hx hb hr hlocks ⟨⟨hS.1, hS.2.1⟩, τ, G, EX.rf, hF, ⟨_, rfl, trivial⟩, hT⟩ hS.2.2 (Nat.le_of_ble_eq_true rfl) (Nat.le_of_ble_eq_true rfl) dX9_told_19
set_option maxHeartbeats 4000000 in
set_option maxRecDepth 100000 in
theorem t_X9_isSlot2 (l : Launch) (D : va_G) (cy : Nat → ClassId) (base : Nat) (τ : Nat → Nat) (G : Gh) (v : Int32) : MM l yX9_isSlot cX9_isSlot 1 (some .boolean) 0 0 0 D cy [.int v] (PT D cy base τ G) (PuI (fun r => ((r = 1 ∧ 0 ≤ v.toInt ∧ v.toInt ≤ 3) ∨ (r = 0 ∧ (v.toInt < 0 ∨ 3 < v.toInt))))) noF := by
  refine MM.of (by decide) (Nat.le_of_ble_eq_true rfl) ?_
  intro p e s m below meth c C hPT ls hl
  obtain ⟨hx, hb, hr, hml, hown, hts, hlocks, hK, hnm⟩ := C
  obtain ⟨hZ, hT⟩ := hPT
  have hS : va_S (RA base) s.heap s.heap [] := va_S.rf
  have hl : lv_has ls 1 [(0, .int v)] := hl
  refine lv_iload_n hx hb dX9_isSlot_0 rfl (lv_at hl 0 rfl) ?_
  refine lv_if_lt (tgt := 13) hx hb dX9_isSlot_1 (by decide) (fun c_1 => ?_) (fun c_1 => ?_)
  · skip
    have tc_1 : v.toInt < 0 := (fa_lt _ _).mp c_1
    refine lv_iconst (v := 0) hx hb dX9_isSlot_13 (by decide) ?_
    exact ret_z (ty := .boolean) hx hb hr rfl hlocks ⟨rfl, _, rfl, (Or.inr ⟨rfl, (by omega)⟩)⟩ (fun _ h => absurd h List.not_mem_nil) (Nat.le_refl _) (Nat.le_refl _) dX9_isSlot_14
  · skip
    have tc_1 : ¬ v.toInt < 0 := fun h => c_1 ((fa_lt _ _).mpr h)
    refine lv_iload_n hx hb dX9_isSlot_4 rfl (lv_at hl 0 rfl) ?_
    refine lv_iconst (v := 4) hx hb dX9_isSlot_5 (by decide) ?_
    refine lv_icmp_ge (tgt := 13) hx hb dX9_isSlot_6 (by decide) (fun c_2 => ?_) (fun c_2 => ?_)
    · skip
      have tc_2 : 4 ≤ v.toInt := (fa_le _ _).mp c_2
      refine lv_iconst (v := 0) hx hb dX9_isSlot_13 (by decide) ?_
      exact ret_z (ty := .boolean) hx hb hr rfl hlocks ⟨rfl, _, rfl, (Or.inr ⟨rfl, (by omega)⟩)⟩ (fun _ h => absurd h List.not_mem_nil) (Nat.le_refl _) (Nat.le_refl _) dX9_isSlot_14
    · skip
      have tc_2 : ¬ 4 ≤ v.toInt := fun h => c_2 ((fa_le _ _).mpr h)
      refine lv_iconst (v := 1) hx hb dX9_isSlot_9 (by decide) ?_
      refine lv_goto (tgt := 14) hx hb dX9_isSlot_10 (by decide) ?_
      exact ret_z (ty := .boolean) hx hb hr rfl hlocks ⟨rfl, _, rfl, (Or.inl ⟨rfl, (by omega), (by omega)⟩)⟩ (fun _ h => absurd h List.not_mem_nil) (Nat.le_refl _) (Nat.le_refl _) dX9_isSlot_14
set_option maxHeartbeats 4000000 in
set_option maxRecDepth 100000 in
theorem t_X10_in2 (l : Launch) (D : va_G) (cy : Nat → ClassId) (base : Nat) (τ : Nat → Nat) (G : Gh) (v : Int64) (lo : Int64) (hi : Int64) : MM l yX10_in cX10_in 6 (some .boolean) 0 0 0 D cy [.long v, .long lo, .long hi] (PT D cy base τ G) (PuI (fun r => ((r = 1 ∧ lo.toInt ≤ v.toInt ∧ v.toInt ≤ hi.toInt) ∨ (r = 0 ∧ (v.toInt < lo.toInt ∨ hi.toInt < v.toInt))))) noF := by
  refine MM.of (by decide) (Nat.le_of_ble_eq_true rfl) ?_
  intro p e s m below meth c C hPT ls hl
  obtain ⟨hx, hb, hr, hml, hown, hts, hlocks, hK, hnm⟩ := C
  obtain ⟨hZ, hT⟩ := hPT
  have hS : va_S (RA base) s.heap s.heap [] := va_S.rf
  have hl : lv_has ls 6 [(0, .long v), (2, .long lo), (4, .long hi)] := hl
  refine lv_lload_n hx hb dX10_in_0 rfl (lv_at hl 0 rfl) ?_
  refine lv_lload_n hx hb dX10_in_1 rfl (lv_at hl 1 rfl) ?_
  refine W.lcmp hx hb dX10_in_2 ?_
  refine lv_topi (fun z_1 ez_1 => ?_)
  have tz_1 : (z_1.toInt < 0 ↔ v.toInt < lo.toInt) ∧ (0 < z_1.toInt ↔ lo.toInt < v.toInt) ∧ -1 ≤ z_1.toInt ∧ z_1.toInt ≤ 1 := cmp_t ez_1
  refine lv_if_lt (tgt := 17) hx hb dX10_in_3 (by decide) (fun c_2 => ?_) (fun c_2 => ?_)
  · skip
    have tc_2 : z_1.toInt < 0 := (fa_lt _ _).mp c_2
    refine lv_iconst (v := 0) hx hb dX10_in_17 (by decide) ?_
    exact ret_z (ty := .boolean) hx hb hr rfl hlocks ⟨rfl, _, rfl, (Or.inr ⟨rfl, (by omega)⟩)⟩ (fun _ h => absurd h List.not_mem_nil) (Nat.le_refl _) (Nat.le_refl _) dX10_in_18
  · skip
    have tc_2 : ¬ z_1.toInt < 0 := fun h => c_2 ((fa_lt _ _).mpr h)
    refine lv_lload_n hx hb dX10_in_6 rfl (lv_at hl 0 rfl) ?_
    refine lv_lload hx hb dX10_in_7 (lv_at hl 2 rfl) ?_
    refine W.lcmp hx hb dX10_in_9 ?_
    refine lv_topi (fun z_3 ez_3 => ?_)
    have tz_3 : (z_3.toInt < 0 ↔ v.toInt < hi.toInt) ∧ (0 < z_3.toInt ↔ hi.toInt < v.toInt) ∧ -1 ≤ z_3.toInt ∧ z_3.toInt ≤ 1 := cmp_t ez_3
    refine lv_if_gt (tgt := 17) hx hb dX10_in_10 (by decide) (fun c_4 => ?_) (fun c_4 => ?_)
    · skip
      have tc_4 : 0 < z_3.toInt := (fa_lt _ _).mp c_4
      refine lv_iconst (v := 0) hx hb dX10_in_17 (by decide) ?_
      exact ret_z (ty := .boolean) hx hb hr rfl hlocks ⟨rfl, _, rfl, (Or.inr ⟨rfl, (by omega)⟩)⟩ (fun _ h => absurd h List.not_mem_nil) (Nat.le_refl _) (Nat.le_refl _) dX10_in_18
    · skip
      have tc_4 : ¬ 0 < z_3.toInt := fun h => c_4 ((fa_lt _ _).mpr h)
      refine lv_iconst (v := 1) hx hb dX10_in_13 (by decide) ?_
      refine lv_goto (tgt := 18) hx hb dX10_in_14 (by decide) ?_
      exact ret_z (ty := .boolean) hx hb hr rfl hlocks ⟨rfl, _, rfl, (Or.inl ⟨rfl, (by omega), (by omega)⟩)⟩ (fun _ h => absurd h List.not_mem_nil) (Nat.le_refl _) (Nat.le_refl _) dX10_in_18
set_option maxHeartbeats 4000000 in
set_option maxRecDepth 100000 in
theorem t_X10_isSlot2 (l : Launch) (D : va_G) (cy : Nat → ClassId) (base : Nat) (τ : Nat → Nat) (G : Gh) (v : Int32) : MM l yX10_isSlot cX10_isSlot 1 (some .boolean) 1 0 0 D cy [.int v] (PT D cy base τ G) (PuI (fun r => ((r = 1 ∧ 0 ≤ v.toInt ∧ v.toInt ≤ 3) ∨ (r = 0 ∧ (v.toInt < 0 ∨ 3 < v.toInt))))) noF := by
  refine MM.of (by decide) (Nat.le_of_ble_eq_true rfl) ?_
  intro p e s m below meth c C hPT ls hl
  obtain ⟨hx, hb, hr, hml, hown, hts, hlocks, hK, hnm⟩ := C
  obtain ⟨hZ, hT⟩ := hPT
  have hS : va_S (RA base) s.heap s.heap [] := va_S.rf
  have hl : lv_has ls 1 [(0, .int v)] := hl
  refine lv_iload_n hx hb dX10_isSlot_0 rfl (lv_at hl 0 rfl) ?_
  refine lv_i2l hx hb dX10_isSlot_1 rfl ?_
  refine lv_topl (fun z_1 ez_1 => ?_)
  have tz_1 : z_1.toInt = v.toInt := by rw [ez_1]; exact wide_t v
  have az_1 := min_t v
  have bz_1 := max_t v
  refine lv_lconst (v := 0) hx hb dX10_isSlot_2 (by decide) ?_
  refine lv_ldc2 (v := 3) hx hb hown (hts _ kl_X10_114) dX10_isSlot_3 ?_
  refine pu_calli (runS (As := [.long z_1, .long 0, .long 3]) (rest := []) ⟨hx, hb, hml, hown, hts⟩ (t_X10_in2 l D cy base τ G z_1 0 3) sS_X10_116 hK ⟨Nat.le_trans hZ hS.1, hT⟩ ⟨Nat.le_of_ble_eq_true rfl, Nat.le_of_ble_eq_true rfl⟩ rfl hl.1 rfl (Nat.le_of_ble_eq_true rfl) dX10_isSlot_6 ⟨Nat.le_of_ble_eq_true rfl, Nat.le_of_ble_eq_true rfl⟩) (fun r_2 hr_2 => ?_)
  have hr_2_c := hr_2
  rcases hr_2_c with hr_2_0 | hr_2_1
  · skip
    obtain ⟨er_2, hr_2_0_f0, hr_2_0_f1⟩ := hr_2_0
    have hr_2_0_f0 : 0 ≤ z_1.toInt := hr_2_0_f0
    have hr_2_0_f1 : z_1.toInt ≤ 3 := hr_2_0_f1
    subst er_2
    refine W.eq (g2 := F0 m 9 ls [.int 1]) rfl ?_
    exact ret_z (ty := .boolean) hx hb hr rfl hlocks ⟨rfl, _, rfl, (Or.inl ⟨rfl, (by omega), (by omega)⟩)⟩ (fun _ h => absurd h List.not_mem_nil) (Nat.le_refl _) (Nat.le_refl _) dX10_isSlot_9
  · skip
    obtain ⟨er_2, hr_2_1_f0⟩ := hr_2_1
    have hr_2_1_f0 : (z_1.toInt < 0 ∨ 3 < z_1.toInt) := hr_2_1_f0
    subst er_2
    refine W.eq (g2 := F0 m 9 ls [.int 0]) rfl ?_
    exact ret_z (ty := .boolean) hx hb hr rfl hlocks ⟨rfl, _, rfl, (Or.inr ⟨rfl, (by omega)⟩)⟩ (fun _ h => absurd h List.not_mem_nil) (Nat.le_refl _) (Nat.le_refl _) dX10_isSlot_9
set_option maxHeartbeats 4000000 in
set_option maxRecDepth 100000 in
theorem t_X9_row (l : Launch) (D : va_G) (cy : Nat → ClassId) (base : Nat) (τ : Nat → Nat) (G : Gh)  (a : Nat) (h_a : τ a = 1) (v0 : Int32) (v1 : Int32) (v2 : Int32) (sl : Nat) (h_sl : τ sl = 23) (e_sl : G.2.2.1 a 7 = some sl) : MM l yX9_row cX9_row 4 (some .int) 2 2 62 D cy [.ref a, .int v0, .int v1, .int v2] (PT D cy base τ G) (QE D cy base τ G [1023] (fun v τ1 g => ∃ r : Int32, v = some (.int r) ∧ ((r = -2 ∧ (v0.toInt < 0 ∨ 3 < v0.toInt ∨ v1.toInt < 0 ∨ 3 < v1.toInt ∨ 60 < v2.toInt) ∧ (∀ j : Nat, g.2.2.1 sl j = G.2.2.1 sl j)) ∨ (r = -3 ∧ 0 ≤ v0.toInt ∧ v0.toInt ≤ 3 ∧ 0 ≤ v1.toInt ∧ v1.toInt ≤ 3 ∧ v2.toInt < 0 ∧ (∀ j : Nat, g.2.2.1 sl j = G.2.2.1 sl j)) ∨ (r = 0 ∧ 0 ≤ v0.toInt ∧ v0.toInt ≤ 3 ∧ 0 ≤ v1.toInt ∧ v1.toInt ≤ 3 ∧ 0 ≤ v2.toInt ∧ v2.toInt ≤ 60 ∧ ∃ q y : Nat, g.2.2.1 sl v0.toNatClampNeg = some q ∧ τ1 q = 9 ∧ g.1 q 0 = v1 ∧ g.2.2.1 q 1 = some y ∧ τ1 y = 40 ∧ g.2.2.2 y = v2.toInt.toNat ∧ ∀ j : Nat, j ≠ v0.toNatClampNeg → g.2.2.1 sl j = G.2.2.1 sl j)))) (RA base) := by
  refine MM.of (by decide) (Nat.le_of_ble_eq_true rfl) ?_
  intro p e s m below meth c C hPT ls hl
  obtain ⟨hx, hb, hr, hml, hown, hts, hlocks, hK, hnm⟩ := C
  obtain ⟨hZ, hT⟩ := hPT
  have hS : va_S (RA base) s.heap s.heap [] := va_S.rf
  have hF : Fr τ [1023] G G := Fr.rf
  have hl : lv_has ls 4 [(0, .ref a), (1, .int v0), (2, .int v1), (3, .int v2)] := hl
  refine lv_iload_n hx hb dX9_row_0 rfl (lv_at hl 1 rfl) ?_
  refine pu_calli (runS (As := [.int v0]) (rest := []) ⟨hx, hb, hml, hown, hts⟩ (t_X9_isSlot2 l D cy base τ G v0) sS_X9_312 hK ⟨Nat.le_trans hZ hS.1, hT⟩ ⟨Nat.le_of_ble_eq_true rfl, Nat.le_of_ble_eq_true rfl⟩ rfl hl.1 rfl (Nat.le_of_ble_eq_true rfl) dX9_row_1 ⟨Nat.le_of_ble_eq_true rfl, Nat.le_of_ble_eq_true rfl⟩) (fun r_1 hr_1 => ?_)
  have hr_1_c := hr_1
  rcases hr_1_c with hr_1_0 | hr_1_1
  · skip
    obtain ⟨er_1, hr_1_0_f0, hr_1_0_f1⟩ := hr_1_0
    have hr_1_0_f0 : 0 ≤ v0.toInt := hr_1_0_f0
    have hr_1_0_f1 : v0.toInt ≤ 3 := hr_1_0_f1
    subst er_1
    refine W.eq (g2 := F0 m 4 ls [.int 1]) rfl ?_
    refine lv_if_eq (tgt := 22) hx hb dX9_row_4 (by decide) (fun c_2 => absurd c_2 (by decide)) (fun _ => ?_)
    refine lv_iload_n hx hb dX9_row_7 rfl (lv_at hl 2 rfl) ?_
    refine lv_if_lt (tgt := 22) hx hb dX9_row_8 (by decide) (fun c_3 => ?_) (fun c_3 => ?_)
    · skip
      have tc_3 : v1.toInt < 0 := (fa_lt _ _).mp c_3
      refine lv_bipush (v := (-2)) hx hb dX9_row_22 (by decide) ?_
      exact ret_i hx hb hr hlocks ⟨⟨hS.1, hS.2.1⟩, τ, G, EX.rf, hF, ⟨_, rfl, (Or.inl ⟨rfl, by omega, (fun _ => rfl)⟩)⟩, hT⟩ hS.2.2 (Nat.le_of_ble_eq_true rfl) (Nat.le_of_ble_eq_true rfl) dX9_row_24
    · skip
      have tc_3 : ¬ v1.toInt < 0 := fun h => c_3 ((fa_lt _ _).mpr h)
      refine lv_iload_n hx hb dX9_row_11 rfl (lv_at hl 2 rfl) ?_
      refine lv_iconst (v := 3) hx hb dX9_row_12 (by decide) ?_
      refine lv_icmp_gt (tgt := 22) hx hb dX9_row_13 (by decide) (fun c_4 => ?_) (fun c_4 => ?_)
      · skip
        have tc_4 : 3 < v1.toInt := (fa_lt _ _).mp c_4
        have mc_4 : v1.toInt ≤ 2147483647 := max_t v1
        refine lv_bipush (v := (-2)) hx hb dX9_row_22 (by decide) ?_
        exact ret_i hx hb hr hlocks ⟨⟨hS.1, hS.2.1⟩, τ, G, EX.rf, hF, ⟨_, rfl, (Or.inl ⟨rfl, by omega, (fun _ => rfl)⟩)⟩, hT⟩ hS.2.2 (Nat.le_of_ble_eq_true rfl) (Nat.le_of_ble_eq_true rfl) dX9_row_24
      · skip
        have tc_4 : ¬ 3 < v1.toInt := fun h => c_4 ((fa_lt _ _).mpr h)
        refine lv_iload_n hx hb dX9_row_16 rfl (lv_at hl 3 rfl) ?_
        refine lv_bipush (v := 60) hx hb dX9_row_17 (by decide) ?_
        refine lv_icmp_le (tgt := 25) hx hb dX9_row_19 (by decide) (fun c_5 => ?_) (fun c_5 => ?_)
        · skip
          have tc_5 : v2.toInt ≤ 60 := (fa_le _ _).mp c_5
          refine lv_iload_n hx hb dX9_row_25 rfl (lv_at hl 3 rfl) ?_
          refine lv_if_ge (tgt := 32) hx hb dX9_row_26 (by decide) (fun c_6 => ?_) (fun c_6 => ?_)
          · skip
            have tc_6 : 0 ≤ v2.toInt := (fa_le _ _).mp c_6
            refine lv_aload_n hx hb dX9_row_32 rfl (lv_at hl 0 rfl) ?_
            refine t_getr cf_1 hx hb hts hown hK hT h_a (k := 7) (P := fun q => τ q = 23) rfl (fun _ h9 => h9) fl_X9_54 (fun _ h9 => h9) dX9_row_33 (fun q_7 eq_7 hq_7 => ?_)
            have w_8 : sl = q_7 := Option.some.inj (e_sl.symm.trans eq_7)
            subst w_8
            refine lv_iload_n hx hb dX9_row_36 rfl (lv_at hl 1 rfl) ?_
            refine t_newo (ci := 6) (fs := [.int 0, .null]) (C := RX6) (T := TX6) (N := 2) (ty := tyX6) hx hb hts lay_X6 tyX6_ok hown cl_X9_52 ins_X6 ini_X6 hK hT hS hZ rfl born_X6 (Nat.le_of_ble_eq_true rfl) (Nat.le_of_ble_eq_true rfl) dX9_row_37 (fun q_9 H hX hS => ?_)
            have hT := hX.ty
            refine lv_dup hx hb dX9_row_40 rfl ?_
            refine lv_iload_n hx hb dX9_row_41 rfl (lv_at hl 2 rfl) ?_
            refine lv_iload_n hx hb dX9_row_42 rfl (lv_at hl 3 rfl) ?_
            refine t_ctor (runI (As := [.int v1, .int v2]) (rest := [.ref q_9, .int v0, .ref sl]) ⟨hx, hb, hml, hown, hts⟩ (i_X6 l D cy q_9 v1 v2 (by omega) (by omega) _) sI_X9_364 hK hX.pw ⟨Nat.le_of_ble_eq_true rfl, Nat.le_of_ble_eq_true rfl⟩ rfl hl.1 rfl (Nat.le_of_ble_eq_true rfl) dX9_row_43 ⟨Nat.le_of_ble_eq_true rfl, Nat.le_of_ble_eq_true rfl⟩) hX hS hZ (fun v9 u9 H locs hv9 hX hS => ?_)
            subst hv9
            refine W.eq (g2 := F0 m 46 ls [.ref q_9, .int v0, .ref sl]) rfl ?_
            obtain ⟨τ, G, hE, hFa, hq_9, oq_9, wq_9, yq_9, eyq_9, hyq_9, nyq_9, hT⟩ := ab_X6 (by omega) hX
            have hF0 := hF.tr hFa rfl
            have h_a_o := h_a
            have h_a : τ a = 1 := hE.tg h_a (by decide)
            have h_sl_o := h_sl
            have h_sl : τ sl = 23 := hE.tg h_sl (by decide)
            have hF : Fr τ [1023] G G := Fr.rf
            refine t_aast4 (n := 4) (i := v0) rfl (by decide) hx hb hK hT hS h_sl (hT.len h_sl (by decide)) ⟨by omega, by omega⟩ hq_9 (Or.inr ⟨_, rfl, hq_9⟩) dX9_row_46 (fun H locs G_11 eG_11 hT hS => ?_)
            have hF := hF.wR eG_11 h_sl rfl
            refine lv_iconst (v := 0) hx hb dX9_row_47 (by decide) ?_
            exact ret_i hx hb hr hlocks ⟨⟨hS.1, hS.2.1⟩, τ, G_11, hE, (hF0.tr (hF.dn hE) rfl), ⟨_, rfl, (Or.inr (Or.inr ⟨rfl, by omega, by omega, by omega, by omega, by omega, by omega, q_9, yq_9, (by rw [eG_11, wR_at]), hq_9, (by rw [eG_11]; exact wq_9), (by rw [eG_11, wR_ne (Or.inl (tag_ne h_sl hq_9 (by decide)))]; exact eyq_9), hyq_9, (by rw [eG_11]; exact nyq_9), fun j hj => by rw [eG_11, wR_ne (Or.inr hj)]; exact hFa.r h_sl_o (by decide) rfl j⟩))⟩, hT⟩ hS.2.2 (Nat.le_of_ble_eq_true rfl) (Nat.le_of_ble_eq_true rfl) dX9_row_48
          · skip
            have tc_6 : ¬ 0 ≤ v2.toInt := fun h => c_6 ((fa_le _ _).mpr h)
            refine lv_bipush (v := (-3)) hx hb dX9_row_29 (by decide) ?_
            exact ret_i hx hb hr hlocks ⟨⟨hS.1, hS.2.1⟩, τ, G, EX.rf, hF, ⟨_, rfl, (Or.inr (Or.inl ⟨rfl, by omega, by omega, by omega, by omega, by omega, (fun _ => rfl)⟩))⟩, hT⟩ hS.2.2 (Nat.le_of_ble_eq_true rfl) (Nat.le_of_ble_eq_true rfl) dX9_row_31
        · skip
          have tc_5 : ¬ v2.toInt ≤ 60 := fun h => c_5 ((fa_le _ _).mpr h)
          have mc_5 : v2.toInt ≤ 2147483647 := max_t v2
          refine lv_bipush (v := (-2)) hx hb dX9_row_22 (by decide) ?_
          exact ret_i hx hb hr hlocks ⟨⟨hS.1, hS.2.1⟩, τ, G, EX.rf, hF, ⟨_, rfl, (Or.inl ⟨rfl, by omega, (fun _ => rfl)⟩)⟩, hT⟩ hS.2.2 (Nat.le_of_ble_eq_true rfl) (Nat.le_of_ble_eq_true rfl) dX9_row_24
  · skip
    obtain ⟨er_1, hr_1_1_f0⟩ := hr_1_1
    have hr_1_1_f0 : (v0.toInt < 0 ∨ 3 < v0.toInt) := hr_1_1_f0
    subst er_1
    refine W.eq (g2 := F0 m 4 ls [.int 0]) rfl ?_
    refine lv_if_eq (tgt := 22) hx hb dX9_row_4 (by decide) (fun _ => ?_) (fun c_12 => absurd (by decide) c_12)
    refine lv_bipush (v := (-2)) hx hb dX9_row_22 (by decide) ?_
    exact ret_i hx hb hr hlocks ⟨⟨hS.1, hS.2.1⟩, τ, G, EX.rf, hF, ⟨_, rfl, (Or.inl ⟨rfl, by omega, (fun _ => rfl)⟩)⟩, hT⟩ hS.2.2 (Nat.le_of_ble_eq_true rfl) (Nat.le_of_ble_eq_true rfl) dX9_row_24
set_option maxHeartbeats 4000000 in
set_option maxRecDepth 100000 in
theorem t_X9_keep (l : Launch) (D : va_G) (cy : Nat → ClassId) (base : Nat) (τ : Nat → Nat) (G : Gh)  (a : Nat) (h_a : τ a = 1) (v0 : Int32) (im : Nat) (h_im : τ im = 24) (e_im : G.2.2.1 a 8 = some im) : MM l yX9_keep cX9_keep 2 (some .int) 2 1 2 D cy [.ref a, .int v0] (PT D cy base τ G) (QE D cy base τ G [1024] (fun v τ1 g => ∃ r : Int32, v = some (.int r) ∧ ((r = -2 ∧ (v0.toInt < 0 ∨ 2 < v0.toInt) ∧ (∀ j : Nat, g.2.2.1 im j = G.2.2.1 im j)) ∨ (r = 0 ∧ 0 ≤ v0.toInt ∧ v0.toInt ≤ 2 ∧ ∃ q : Nat, g.2.2.1 im v0.toNatClampNeg = some q ∧ ∀ j : Nat, j ≠ v0.toNatClampNeg → g.2.2.1 im j = G.2.2.1 im j)))) (RA base) := by
  refine MM.of (by decide) (Nat.le_of_ble_eq_true rfl) ?_
  intro p e s m below meth c C hPT ls hl
  obtain ⟨hx, hb, hr, hml, hown, hts, hlocks, hK, hnm⟩ := C
  obtain ⟨hZ, hT⟩ := hPT
  have hS : va_S (RA base) s.heap s.heap [] := va_S.rf
  have hF : Fr τ [1024] G G := Fr.rf
  have hl : lv_has ls 2 [(0, .ref a), (1, .int v0)] := hl
  refine lv_iload_n hx hb dX9_keep_0 rfl (lv_at hl 1 rfl) ?_
  refine lv_if_lt (tgt := 9) hx hb dX9_keep_1 (by decide) (fun c_1 => ?_) (fun c_1 => ?_)
  · skip
    have tc_1 : v0.toInt < 0 := (fa_lt _ _).mp c_1
    refine lv_bipush (v := (-2)) hx hb dX9_keep_9 (by decide) ?_
    exact ret_i hx hb hr hlocks ⟨⟨hS.1, hS.2.1⟩, τ, G, EX.rf, hF, ⟨_, rfl, (Or.inl ⟨rfl, by omega, fun _ => rfl⟩)⟩, hT⟩ hS.2.2 (Nat.le_of_ble_eq_true rfl) (Nat.le_of_ble_eq_true rfl) dX9_keep_11
  · skip
    have tc_1 : ¬ v0.toInt < 0 := fun h => c_1 ((fa_lt _ _).mpr h)
    refine lv_iload_n hx hb dX9_keep_4 rfl (lv_at hl 1 rfl) ?_
    refine lv_iconst (v := 3) hx hb dX9_keep_5 (by decide) ?_
    refine lv_icmp_lt (tgt := 12) hx hb dX9_keep_6 (by decide) (fun c_2 => ?_) (fun c_2 => ?_)
    · skip
      have tc_2 : v0.toInt < 3 := (fa_lt _ _).mp c_2
      refine lv_aload_n hx hb dX9_keep_12 rfl (lv_at hl 0 rfl) ?_
      refine t_getr cf_1 hx hb hts hown hK hT h_a (k := 8) (P := fun q => τ q = 24) rfl (fun _ h9 => h9) fl_X9_60 (fun _ h9 => h9) dX9_keep_13 (fun q_3 eq_3 hq_3 => ?_)
      have w_4 : im = q_3 := Option.some.inj (e_im.symm.trans eq_3)
      subst w_4
      refine lv_iload_n hx hb dX9_keep_16 rfl (lv_at hl 1 rfl) ?_
      refine t_newo (ci := 1) (fs := [.null, .null]) (C := RX1) (T := TX1) (N := 2) (ty := tyX1) hx hb hts lay_X1 tyX1_ok hown cl_X9_58 ins_X1 ini_X1 hK hT hS hZ rfl born_X1 (Nat.le_of_ble_eq_true rfl) (Nat.le_of_ble_eq_true rfl) dX9_keep_17 (fun q_5 H hX hS => ?_)
      have hT := hX.ty
      refine lv_dup hx hb dX9_keep_20 rfl ?_
      refine lv_aload_n hx hb dX9_keep_21 rfl (lv_at hl 0 rfl) ?_
      refine t_getr cf_1 hx hb hts hown hK hT h_a (k := 10) (P := fun q => τ q = 7) rfl (fun _ h9 => h9) fl_X9_67 (fun _ h9 => h9) dX9_keep_22 (fun q_6 eq_6 hq_6 => ?_)
      refine lv_aload_n hx hb dX9_keep_25 rfl (lv_at hl 0 rfl) ?_
      refine t_getn cf_1 hx hb hts hown hK hT h_a (k := 11) (P := fun q => τ q = 25) rfl (fun _ h9 => h9) fl_X9_93 (fun _ h9 => h9) dX9_keep_26 (fun eq_7 => ?_) (fun q_7 eq_7 hq_7 => ?_)
      · skip
        refine t_ctor (runI (As := [.ref q_6, .null]) (rest := [.ref q_5, .int v0, .ref im]) ⟨hx, hb, hml, hown, hts⟩ (i_X1n l D cy q_5 q_6 _) sI_X9_359 hK hX.pw ⟨Nat.le_of_ble_eq_true rfl, Nat.le_of_ble_eq_true rfl⟩ rfl hl.1 rfl (Nat.le_of_ble_eq_true rfl) dX9_keep_29 ⟨Nat.le_of_ble_eq_true rfl, Nat.le_of_ble_eq_true rfl⟩) hX hS hZ (fun v9 u9 H locs hv9 hX hS => ?_)
        subst hv9
        refine W.eq (g2 := F0 m 32 ls [.ref q_5, .int v0, .ref im]) rfl ?_
        obtain ⟨τ, G, hE, hFa, hq_5, oq_5, hT⟩ := ab_X1n hq_6 hX
        have hF0 := hF.tr hFa rfl
        have h_a_o := h_a
        have h_a : τ a = 1 := hE.tg h_a (by decide)
        have h_im_o := h_im
        have h_im : τ im = 24 := hE.tg h_im (by decide)
        have hF : Fr τ [1024] G G := Fr.rf
        refine t_aast5 (n := 3) (i := v0) rfl (by decide) hx hb hK hT hS h_im (hT.len h_im (by decide)) ⟨by omega, by omega⟩ hq_5 (Or.inr ⟨_, rfl, hq_5⟩) dX9_keep_32 (fun H locs G_9 eG_9 hT hS => ?_)
        have hF := hF.wR eG_9 h_im rfl
        refine lv_iconst (v := 0) hx hb dX9_keep_33 (by decide) ?_
        exact ret_i hx hb hr hlocks ⟨⟨hS.1, hS.2.1⟩, τ, G_9, hE, (hF0.tr (hF.dn hE) rfl), ⟨_, rfl, (Or.inr ⟨rfl, by omega, by omega, q_5, (by rw [eG_9, wR_at]), fun j hj => by rw [eG_9, wR_ne (Or.inr hj)]; exact hFa.r h_im_o (by decide) rfl j⟩)⟩, hT⟩ hS.2.2 (Nat.le_of_ble_eq_true rfl) (Nat.le_of_ble_eq_true rfl) dX9_keep_34
      · skip
        refine t_ctor (runI (As := [.ref q_6, .ref q_7]) (rest := [.ref q_5, .int v0, .ref im]) ⟨hx, hb, hml, hown, hts⟩ (i_X1r l D cy q_5 q_6 q_7 _) sI_X9_359 hK hX.pw ⟨Nat.le_of_ble_eq_true rfl, Nat.le_of_ble_eq_true rfl⟩ rfl hl.1 rfl (Nat.le_of_ble_eq_true rfl) dX9_keep_29 ⟨Nat.le_of_ble_eq_true rfl, Nat.le_of_ble_eq_true rfl⟩) hX hS hZ (fun v9 u9 H locs hv9 hX hS => ?_)
        subst hv9
        refine W.eq (g2 := F0 m 32 ls [.ref q_5, .int v0, .ref im]) rfl ?_
        obtain ⟨τ, G, hE, hFa, hq_5, oq_5, hT⟩ := ab_X1r hq_6 hq_7 hX
        have hF0 := hF.tr hFa rfl
        have h_a_o := h_a
        have h_a : τ a = 1 := hE.tg h_a (by decide)
        have h_im_o := h_im
        have h_im : τ im = 24 := hE.tg h_im (by decide)
        have hF : Fr τ [1024] G G := Fr.rf
        refine t_aast5 (n := 3) (i := v0) rfl (by decide) hx hb hK hT hS h_im (hT.len h_im (by decide)) ⟨by omega, by omega⟩ hq_5 (Or.inr ⟨_, rfl, hq_5⟩) dX9_keep_32 (fun H locs G_11 eG_11 hT hS => ?_)
        have hF := hF.wR eG_11 h_im rfl
        refine lv_iconst (v := 0) hx hb dX9_keep_33 (by decide) ?_
        exact ret_i hx hb hr hlocks ⟨⟨hS.1, hS.2.1⟩, τ, G_11, hE, (hF0.tr (hF.dn hE) rfl), ⟨_, rfl, (Or.inr ⟨rfl, by omega, by omega, q_5, (by rw [eG_11, wR_at]), fun j hj => by rw [eG_11, wR_ne (Or.inr hj)]; exact hFa.r h_im_o (by decide) rfl j⟩)⟩, hT⟩ hS.2.2 (Nat.le_of_ble_eq_true rfl) (Nat.le_of_ble_eq_true rfl) dX9_keep_34
    · skip
      have tc_2 : ¬ v0.toInt < 3 := fun h => c_2 ((fa_lt _ _).mpr h)
      refine lv_bipush (v := (-2)) hx hb dX9_keep_9 (by decide) ?_
      exact ret_i hx hb hr hlocks ⟨⟨hS.1, hS.2.1⟩, τ, G, EX.rf, hF, ⟨_, rfl, (Or.inl ⟨rfl, by omega, fun _ => rfl⟩)⟩, hT⟩ hS.2.2 (Nat.le_of_ble_eq_true rfl) (Nat.le_of_ble_eq_true rfl) dX9_keep_11
