theorem dX9_end_0 : decode cX9_end 0 = .ok (.iload_n 1, 1) := by decide +kernel
theorem dX9_end_1 : decode cX9_end 1 = .ok (.ifCond .lt 11, 3) := by decide +kernel
theorem dX9_end_12 : decode cX9_end 12 = .ok (.iconst (-1), 1) := by decide +kernel
theorem dX9_end_13 : decode cX9_end 13 = .ok (.ireturn, 1) := by decide +kernel
theorem dX9_end_4 : decode cX9_end 4 = .ok (.iload_n 1, 1) := by decide +kernel
theorem dX9_end_5 : decode cX9_end 5 = .ok (.aload_n 0, 1) := by decide +kernel
theorem dX9_end_6 : decode cX9_end 6 = .ok (.getfield 75, 3) := by decide +kernel
theorem dX9_end_9 : decode cX9_end 9 = .ok (.if_icmp .le 5, 3) := by decide +kernel
theorem dX9_end_14 : decode cX9_end 14 = .ok (.aload_n 0, 1) := by decide +kernel
theorem dX9_end_15 : decode cX9_end 15 = .ok (.iload_n 1, 1) := by decide +kernel
theorem dX9_end_16 : decode cX9_end 16 = .ok (.putfield 75, 3) := by decide +kernel
theorem dX9_end_19 : decode cX9_end 19 = .ok (.iload_n 1, 1) := by decide +kernel
theorem dX9_end_20 : decode cX9_end 20 = .ok (.ireturn, 1) := by decide +kernel
theorem dX10_end_0 : decode cX10_end 0 = .ok (.aload_n 0, 1) := by decide +kernel
theorem dX10_end_1 : decode cX10_end 1 = .ok (.iconst 0, 1) := by decide +kernel
theorem dX10_end_2 : decode cX10_end 2 = .ok (.putfield 111, 3) := by decide +kernel
theorem dX10_end_5 : decode cX10_end 5 = .ok (.iload_n 1, 1) := by decide +kernel
theorem dX10_end_6 : decode cX10_end 6 = .ok (.i2l, 1) := by decide +kernel
theorem dX10_end_7 : decode cX10_end 7 = .ok (.lconst 0, 1) := by decide +kernel
theorem dX10_end_8 : decode cX10_end 8 = .ok (.aload_n 0, 1) := by decide +kernel
theorem dX10_end_9 : decode cX10_end 9 = .ok (.getfield 128, 3) := by decide +kernel
theorem dX10_end_12 : decode cX10_end 12 = .ok (.i2l, 1) := by decide +kernel
theorem dX10_end_13 : decode cX10_end 13 = .ok (.invokestatic 116, 3) := by decide +kernel
theorem dX10_end_16 : decode cX10_end 16 = .ok (.ifCond .ne 5, 3) := by decide +kernel
theorem dX10_end_21 : decode cX10_end 21 = .ok (.aload_n 0, 1) := by decide +kernel
theorem dX10_end_22 : decode cX10_end 22 = .ok (.iload_n 1, 1) := by decide +kernel
theorem dX10_end_23 : decode cX10_end 23 = .ok (.putfield 128, 3) := by decide +kernel
theorem dX10_end_26 : decode cX10_end 26 = .ok (.iload_n 1, 1) := by decide +kernel
theorem dX10_end_27 : decode cX10_end 27 = .ok (.ireturn, 1) := by decide +kernel
theorem dX10_end_19 : decode cX10_end 19 = .ok (.iconst (-1), 1) := by decide +kernel
theorem dX10_end_20 : decode cX10_end 20 = .ok (.ireturn, 1) := by decide +kernel
theorem dX9_fault_0 : decode cX9_fault 0 = .ok (.iload_n 1, 1) := by decide +kernel
theorem dX9_fault_1 : decode cX9_fault 1 = .ok (.ifCond .ne 8, 3) := by decide +kernel
theorem dX9_fault_9 : decode cX9_fault 9 = .ok (.iload_n 1, 1) := by decide +kernel
theorem dX9_fault_10 : decode cX9_fault 10 = .ok (.iconst 1, 1) := by decide +kernel
theorem dX9_fault_11 : decode cX9_fault 11 = .ok (.if_icmp .ne 10, 3) := by decide +kernel
theorem dX9_fault_21 : decode cX9_fault 21 = .ok (.iconst (-1), 1) := by decide +kernel
theorem dX9_fault_22 : decode cX9_fault 22 = .ok (.ireturn, 1) := by decide +kernel
theorem dX9_fault_14 : decode cX9_fault 14 = .ok (.aload_n 0, 1) := by decide +kernel
theorem dX9_fault_15 : decode cX9_fault 15 = .ok (.getfield 71, 3) := by decide +kernel
theorem dX9_fault_18 : decode cX9_fault 18 = .ok (.goto 4, 3) := by decide +kernel
theorem dX9_fault_4 : decode cX9_fault 4 = .ok (.aload_n 0, 1) := by decide +kernel
theorem dX9_fault_5 : decode cX9_fault 5 = .ok (.getfield 89, 3) := by decide +kernel
theorem dX9_fault_8 : decode cX9_fault 8 = .ok (.ireturn, 1) := by decide +kernel
theorem dX10_fault_0 : decode cX10_fault 0 = .ok (.aload_n 0, 1) := by decide +kernel
theorem dX10_fault_1 : decode cX10_fault 1 = .ok (.iconst 0, 1) := by decide +kernel
theorem dX10_fault_2 : decode cX10_fault 2 = .ok (.putfield 111, 3) := by decide +kernel
theorem dX10_fault_5 : decode cX10_fault 5 = .ok (.iload_n 1, 1) := by decide +kernel
theorem dX10_fault_6 : decode cX10_fault 6 = .ok (.ifCond .ne 10, 3) := by decide +kernel
theorem dX10_fault_16 : decode cX10_fault 16 = .ok (.iload_n 1, 1) := by decide +kernel
theorem dX10_fault_17 : decode cX10_fault 17 = .ok (.iconst 1, 1) := by decide +kernel
theorem dX10_fault_18 : decode cX10_fault 18 = .ok (.if_icmp .ne 10, 3) := by decide +kernel
theorem dX10_fault_28 : decode cX10_fault 28 = .ok (.iconst (-1), 1) := by decide +kernel
theorem dX10_fault_29 : decode cX10_fault 29 = .ok (.ireturn, 1) := by decide +kernel
theorem dX10_fault_21 : decode cX10_fault 21 = .ok (.aload_n 0, 1) := by decide +kernel
theorem dX10_fault_22 : decode cX10_fault 22 = .ok (.getfield 27, 3) := by decide +kernel
theorem dX10_fault_25 : decode cX10_fault 25 = .ok (.goto 4, 3) := by decide +kernel
theorem dX10_fault_9 : decode cX10_fault 9 = .ok (.aload_n 0, 1) := by decide +kernel
theorem dX10_fault_10 : decode cX10_fault 10 = .ok (.getfield 190, 3) := by decide +kernel
theorem dX10_fault_13 : decode cX10_fault 13 = .ok (.goto 16, 3) := by decide +kernel
theorem dX9_slotsInUse_0 : decode cX9_slotsInUse 0 = .ok (.iconst 0, 1) := by decide +kernel
theorem dX9_slotsInUse_1 : decode cX9_slotsInUse 1 = .ok (.istore_n 1, 1) := by decide +kernel
theorem dX9_slotsInUse_2 : decode cX9_slotsInUse 2 = .ok (.iconst 0, 1) := by decide +kernel
theorem dX9_slotsInUse_3 : decode cX9_slotsInUse 3 = .ok (.istore_n 2, 1) := by decide +kernel
theorem dX9_slotsInUse_4 : decode cX9_slotsInUse 4 = .ok (.iload_n 2, 1) := by decide +kernel
theorem dX9_slotsInUse_5 : decode cX9_slotsInUse 5 = .ok (.iconst 4, 1) := by decide +kernel
theorem dX9_slotsInUse_6 : decode cX9_slotsInUse 6 = .ok (.if_icmp .ge 26, 3) := by decide +kernel
theorem dX9_slotsInUse_9 : decode cX9_slotsInUse 9 = .ok (.iload_n 1, 1) := by decide +kernel
theorem dX9_slotsInUse_10 : decode cX9_slotsInUse 10 = .ok (.aload_n 0, 1) := by decide +kernel
theorem dX9_slotsInUse_11 : decode cX9_slotsInUse 11 = .ok (.getfield 54, 3) := by decide +kernel
theorem dX9_slotsInUse_14 : decode cX9_slotsInUse 14 = .ok (.iload_n 2, 1) := by decide +kernel
theorem dX9_slotsInUse_15 : decode cX9_slotsInUse 15 = .ok (.aaload, 1) := by decide +kernel
theorem dX9_slotsInUse_16 : decode cX9_slotsInUse 16 = .ok (.ifnonnull 7, 3) := by decide +kernel
theorem dX9_slotsInUse_19 : decode cX9_slotsInUse 19 = .ok (.iconst 0, 1) := by decide +kernel
theorem dX9_slotsInUse_20 : decode cX9_slotsInUse 20 = .ok (.goto 4, 3) := by decide +kernel
theorem dX9_slotsInUse_24 : decode cX9_slotsInUse 24 = .ok (.iadd, 1) := by decide +kernel
theorem dX9_slotsInUse_25 : decode cX9_slotsInUse 25 = .ok (.istore_n 1, 1) := by decide +kernel
theorem dX9_slotsInUse_26 : decode cX9_slotsInUse 26 = .ok (.iinc 2 1, 3) := by decide +kernel
theorem dX9_slotsInUse_29 : decode cX9_slotsInUse 29 = .ok (.goto (-25), 3) := by decide +kernel
theorem dX9_slotsInUse_32 : decode cX9_slotsInUse 32 = .ok (.iload_n 1, 1) := by decide +kernel
theorem dX9_slotsInUse_33 : decode cX9_slotsInUse 33 = .ok (.ireturn, 1) := by decide +kernel
theorem dX9_count_0 : decode cX9_count 0 = .ok (.iload_n 1, 1) := by decide +kernel
theorem dX9_count_1 : decode cX9_count 1 = .ok (.tableswitch 110 0 7 #[47, 55, 63, 71, 79, 87, 92, 105], 47) := by decide +kernel
theorem dX9_count_111 : decode cX9_count 111 = .ok (.iconst (-1), 1) := by decide +kernel
theorem dX9_count_112 : decode cX9_count 112 = .ok (.ireturn, 1) := by decide +kernel
theorem dX9_count_48 : decode cX9_count 48 = .ok (.aload_n 0, 1) := by decide +kernel
theorem dX9_count_49 : decode cX9_count 49 = .ok (.getfield 67, 3) := by decide +kernel
theorem dX9_count_52 : decode cX9_count 52 = .ok (.getfield 137, 3) := by decide +kernel
theorem dX9_count_55 : decode cX9_count 55 = .ok (.ireturn, 1) := by decide +kernel
theorem dX9_count_56 : decode cX9_count 56 = .ok (.aload_n 0, 1) := by decide +kernel
theorem dX9_count_57 : decode cX9_count 57 = .ok (.getfield 67, 3) := by decide +kernel
theorem dX9_count_60 : decode cX9_count 60 = .ok (.getfield 202, 3) := by decide +kernel
theorem dX9_count_63 : decode cX9_count 63 = .ok (.ireturn, 1) := by decide +kernel
theorem dX9_count_64 : decode cX9_count 64 = .ok (.aload_n 0, 1) := by decide +kernel
theorem dX9_count_65 : decode cX9_count 65 = .ok (.getfield 67, 3) := by decide +kernel
theorem dX9_count_68 : decode cX9_count 68 = .ok (.getfield 155, 3) := by decide +kernel
theorem dX9_count_71 : decode cX9_count 71 = .ok (.ireturn, 1) := by decide +kernel
theorem dX9_count_72 : decode cX9_count 72 = .ok (.aload_n 0, 1) := by decide +kernel
theorem dX9_count_73 : decode cX9_count 73 = .ok (.getfield 67, 3) := by decide +kernel
theorem dX9_count_76 : decode cX9_count 76 = .ok (.getfield 96, 3) := by decide +kernel
theorem dX9_count_79 : decode cX9_count 79 = .ok (.ireturn, 1) := by decide +kernel
theorem dX9_count_80 : decode cX9_count 80 = .ok (.aload_n 0, 1) := by decide +kernel
theorem dX9_count_81 : decode cX9_count 81 = .ok (.getfield 67, 3) := by decide +kernel
theorem dX9_count_84 : decode cX9_count 84 = .ok (.getfield 352, 3) := by decide +kernel
theorem dX9_count_87 : decode cX9_count 87 = .ok (.ireturn, 1) := by decide +kernel
theorem dX9_count_88 : decode cX9_count 88 = .ok (.aload_n 0, 1) := by decide +kernel
theorem dX9_count_89 : decode cX9_count 89 = .ok (.getfield 75, 3) := by decide +kernel
theorem dX9_count_92 : decode cX9_count 92 = .ok (.ireturn, 1) := by decide +kernel
theorem dX9_count_93 : decode cX9_count 93 = .ok (.aload_n 0, 1) := by decide +kernel
theorem dX9_count_94 : decode cX9_count 94 = .ok (.getfield 93, 3) := by decide +kernel
theorem dX9_count_97 : decode cX9_count 97 = .ok (.ifnonnull 7, 3) := by decide +kernel
theorem dX9_count_100 : decode cX9_count 100 = .ok (.iconst 0, 1) := by decide +kernel
theorem dX9_count_101 : decode cX9_count 101 = .ok (.goto 4, 3) := by decide +kernel
theorem dX9_count_105 : decode cX9_count 105 = .ok (.ireturn, 1) := by decide +kernel
theorem dX9_count_106 : decode cX9_count 106 = .ok (.aload_n 0, 1) := by decide +kernel
theorem dX9_count_107 : decode cX9_count 107 = .ok (.invokevirtual 355, 3) := by decide +kernel
theorem dX9_count_110 : decode cX9_count 110 = .ok (.ireturn, 1) := by decide +kernel
theorem dX10_count_0 : decode cX10_count 0 = .ok (.aload_n 0, 1) := by decide +kernel
theorem dX10_count_1 : decode cX10_count 1 = .ok (.iconst 0, 1) := by decide +kernel
theorem dX10_count_2 : decode cX10_count 2 = .ok (.putfield 111, 3) := by decide +kernel
theorem dX10_count_5 : decode cX10_count 5 = .ok (.iconst 0, 1) := by decide +kernel
theorem dX10_count_6 : decode cX10_count 6 = .ok (.istore_n 2, 1) := by decide +kernel
theorem dX10_count_7 : decode cX10_count 7 = .ok (.iload_n 1, 1) := by decide +kernel
theorem dX10_count_8 : decode cX10_count 8 = .ok (.tableswitch 126 0 7 #[48, 55, 62, 67, 74, 81, 86, 93], 48) := by decide +kernel
theorem dX10_count_134 : decode cX10_count 134 = .ok (.iconst (-1), 1) := by decide +kernel
theorem dX10_count_135 : decode cX10_count 135 = .ok (.ireturn, 1) := by decide +kernel
theorem dX10_count_56 : decode cX10_count 56 = .ok (.aload_n 0, 1) := by decide +kernel
theorem dX10_count_57 : decode cX10_count 57 = .ok (.getfield 43, 3) := by decide +kernel
theorem dX10_count_60 : decode cX10_count 60 = .ok (.iconst 0, 1) := by decide +kernel
theorem dX10_count_61 : decode cX10_count 61 = .ok (.iaload, 1) := by decide +kernel
theorem dX10_count_62 : decode cX10_count 62 = .ok (.ireturn, 1) := by decide +kernel
theorem dX10_count_63 : decode cX10_count 63 = .ok (.aload_n 0, 1) := by decide +kernel
theorem dX10_count_64 : decode cX10_count 64 = .ok (.getfield 37, 3) := by decide +kernel
theorem dX10_count_67 : decode cX10_count 67 = .ok (.iconst 0, 1) := by decide +kernel
theorem dX10_count_68 : decode cX10_count 68 = .ok (.iaload, 1) := by decide +kernel
theorem dX10_count_69 : decode cX10_count 69 = .ok (.ireturn, 1) := by decide +kernel
theorem dX10_count_70 : decode cX10_count 70 = .ok (.aload_n 0, 1) := by decide +kernel
theorem dX10_count_71 : decode cX10_count 71 = .ok (.invokevirtual 278, 3) := by decide +kernel
theorem dX10_count_74 : decode cX10_count 74 = .ok (.ireturn, 1) := by decide +kernel
theorem dX10_count_75 : decode cX10_count 75 = .ok (.aload_n 0, 1) := by decide +kernel
theorem dX10_count_76 : decode cX10_count 76 = .ok (.getfield 31, 3) := by decide +kernel
theorem dX10_count_79 : decode cX10_count 79 = .ok (.iconst 0, 1) := by decide +kernel
theorem dX10_count_80 : decode cX10_count 80 = .ok (.iaload, 1) := by decide +kernel
theorem dX10_count_81 : decode cX10_count 81 = .ok (.ireturn, 1) := by decide +kernel
theorem dX10_count_82 : decode cX10_count 82 = .ok (.aload_n 0, 1) := by decide +kernel
theorem dX10_count_83 : decode cX10_count 83 = .ok (.getfield 49, 3) := by decide +kernel
theorem dX10_count_86 : decode cX10_count 86 = .ok (.iconst 0, 1) := by decide +kernel
theorem dX10_count_87 : decode cX10_count 87 = .ok (.iaload, 1) := by decide +kernel
theorem dX10_count_88 : decode cX10_count 88 = .ok (.ireturn, 1) := by decide +kernel
theorem dX10_count_89 : decode cX10_count 89 = .ok (.aload_n 0, 1) := by decide +kernel
theorem dX10_count_90 : decode cX10_count 90 = .ok (.getfield 128, 3) := by decide +kernel
theorem dX10_count_93 : decode cX10_count 93 = .ok (.ireturn, 1) := by decide +kernel
theorem dX10_count_94 : decode cX10_count 94 = .ok (.aload_n 0, 1) := by decide +kernel
theorem dX10_count_95 : decode cX10_count 95 = .ok (.getfield 62, 3) := by decide +kernel
theorem dX10_count_98 : decode cX10_count 98 = .ok (.iconst 0, 1) := by decide +kernel
theorem dX10_count_99 : decode cX10_count 99 = .ok (.iaload, 1) := by decide +kernel
theorem dX10_count_100 : decode cX10_count 100 = .ok (.ireturn, 1) := by decide +kernel
theorem dX10_count_101 : decode cX10_count 101 = .ok (.iconst 0, 1) := by decide +kernel
theorem dX10_count_102 : decode cX10_count 102 = .ok (.istore_n 3, 1) := by decide +kernel
theorem dX10_count_103 : decode cX10_count 103 = .ok (.iload_n 3, 1) := by decide +kernel
theorem dX10_count_104 : decode cX10_count 104 = .ok (.iconst 4, 1) := by decide +kernel
theorem dX10_count_105 : decode cX10_count 105 = .ok (.if_icmp .ge 27, 3) := by decide +kernel
theorem dX10_count_108 : decode cX10_count 108 = .ok (.iload_n 2, 1) := by decide +kernel
theorem dX10_count_109 : decode cX10_count 109 = .ok (.aload_n 0, 1) := by decide +kernel
theorem dX10_count_110 : decode cX10_count 110 = .ok (.getfield 7, 3) := by decide +kernel
theorem dX10_count_113 : decode cX10_count 113 = .ok (.iload_n 3, 1) := by decide +kernel
theorem dX10_count_114 : decode cX10_count 114 = .ok (.iaload, 1) := by decide +kernel
theorem dX10_count_115 : decode cX10_count 115 = .ok (.iconst (-1), 1) := by decide +kernel
theorem dX10_count_116 : decode cX10_count 116 = .ok (.if_icmp .ne 7, 3) := by decide +kernel
theorem dX10_count_119 : decode cX10_count 119 = .ok (.iconst 0, 1) := by decide +kernel
theorem dX10_count_120 : decode cX10_count 120 = .ok (.goto 4, 3) := by decide +kernel
theorem dX10_count_124 : decode cX10_count 124 = .ok (.iadd, 1) := by decide +kernel
theorem dX10_count_125 : decode cX10_count 125 = .ok (.istore_n 2, 1) := by decide +kernel
theorem dX10_count_126 : decode cX10_count 126 = .ok (.iinc 3 1, 3) := by decide +kernel
theorem dX10_count_129 : decode cX10_count 129 = .ok (.goto (-26), 3) := by decide +kernel
theorem dX10_count_132 : decode cX10_count 132 = .ok (.iload_n 2, 1) := by decide +kernel
theorem dX10_count_133 : decode cX10_count 133 = .ok (.ireturn, 1) := by decide +kernel
theorem dX9_back_0 : decode cX9_back 0 = .ok (.iload_n 1, 1) := by decide +kernel
theorem dX9_back_1 : decode cX9_back 1 = .ok (.ifCond .lt 8, 3) := by decide +kernel
theorem dX9_back_9 : decode cX9_back 9 = .ok (.bipush (-2), 2) := by decide +kernel
theorem dX9_back_11 : decode cX9_back 11 = .ok (.ireturn, 1) := by decide +kernel
theorem dX9_back_4 : decode cX9_back 4 = .ok (.iload_n 1, 1) := by decide +kernel
theorem dX9_back_5 : decode cX9_back 5 = .ok (.iconst 3, 1) := by decide +kernel
theorem dX9_back_6 : decode cX9_back 6 = .ok (.if_icmp .lt 6, 3) := by decide +kernel
theorem dX9_back_12 : decode cX9_back 12 = .ok (.aload_n 0, 1) := by decide +kernel
theorem dX9_back_13 : decode cX9_back 13 = .ok (.getfield 60, 3) := by decide +kernel
theorem dX9_back_16 : decode cX9_back 16 = .ok (.iload_n 1, 1) := by decide +kernel
theorem dX9_back_17 : decode cX9_back 17 = .ok (.aaload, 1) := by decide +kernel
theorem dX9_back_18 : decode cX9_back 18 = .ok (.astore_n 2, 1) := by decide +kernel
theorem dX9_back_19 : decode cX9_back 19 = .ok (.aload_n 2, 1) := by decide +kernel
theorem dX9_back_20 : decode cX9_back 20 = .ok (.ifnonnull 6, 3) := by decide +kernel
theorem dX9_back_23 : decode cX9_back 23 = .ok (.bipush (-6), 2) := by decide +kernel
theorem dX9_back_25 : decode cX9_back 25 = .ok (.ireturn, 1) := by decide +kernel
theorem dX10_back_0 : decode cX10_back 0 = .ok (.aload_n 0, 1) := by decide +kernel
theorem dX10_back_1 : decode cX10_back 1 = .ok (.iconst 0, 1) := by decide +kernel
theorem dX10_back_2 : decode cX10_back 2 = .ok (.putfield 111, 3) := by decide +kernel
theorem dX10_back_5 : decode cX10_back 5 = .ok (.iload_n 1, 1) := by decide +kernel
theorem dX10_back_6 : decode cX10_back 6 = .ok (.i2l, 1) := by decide +kernel
theorem dX10_back_7 : decode cX10_back 7 = .ok (.lconst 0, 1) := by decide +kernel
theorem dX10_back_8 : decode cX10_back 8 = .ok (.ldc2_w 502, 3) := by decide +kernel
theorem dX10_back_11 : decode cX10_back 11 = .ok (.invokestatic 116, 3) := by decide +kernel
theorem dX10_back_14 : decode cX10_back 14 = .ok (.ifCond .ne 6, 3) := by decide +kernel
theorem dX10_back_20 : decode cX10_back 20 = .ok (.aload_n 0, 1) := by decide +kernel
theorem dX10_back_21 : decode cX10_back 21 = .ok (.getfield 68, 3) := by decide +kernel
theorem dX10_back_24 : decode cX10_back 24 = .ok (.iload_n 1, 1) := by decide +kernel
theorem dX10_back_25 : decode cX10_back 25 = .ok (.baload, 1) := by decide +kernel
theorem dX10_back_26 : decode cX10_back 26 = .ok (.ifCond .ne 6, 3) := by decide +kernel
theorem dX10_back_29 : decode cX10_back 29 = .ok (.bipush (-6), 2) := by decide +kernel
theorem dX10_back_31 : decode cX10_back 31 = .ok (.ireturn, 1) := by decide +kernel
theorem dX10_back_17 : decode cX10_back 17 = .ok (.bipush (-2), 2) := by decide +kernel
theorem dX10_back_19 : decode cX10_back 19 = .ok (.ireturn, 1) := by decide +kernel
theorem dX9_write_0 : decode cX9_write 0 = .ok (.iload_n 1, 1) := by decide +kernel
theorem dX9_write_1 : decode cX9_write 1 = .ok (.invokestatic 312, 3) := by decide +kernel
theorem dX9_write_4 : decode cX9_write 4 = .ok (.ifCond .ne 6, 3) := by decide +kernel
theorem dX9_write_10 : decode cX9_write 10 = .ok (.aload_n 0, 1) := by decide +kernel
theorem dX9_write_11 : decode cX9_write 11 = .ok (.getfield 54, 3) := by decide +kernel
theorem dX9_write_14 : decode cX9_write 14 = .ok (.iload_n 1, 1) := by decide +kernel
theorem dX9_write_15 : decode cX9_write 15 = .ok (.aaload, 1) := by decide +kernel
theorem dX9_write_16 : decode cX9_write 16 = .ok (.astore 5, 2) := by decide +kernel
theorem dX9_write_18 : decode cX9_write 18 = .ok (.aload 5, 2) := by decide +kernel
theorem dX9_write_20 : decode cX9_write 20 = .ok (.ifnonnull 6, 3) := by decide +kernel
theorem dX9_write_23 : decode cX9_write 23 = .ok (.bipush (-6), 2) := by decide +kernel
theorem dX9_write_25 : decode cX9_write 25 = .ok (.ireturn, 1) := by decide +kernel
theorem dX9_write_7 : decode cX9_write 7 = .ok (.bipush (-2), 2) := by decide +kernel
theorem dX9_write_9 : decode cX9_write 9 = .ok (.ireturn, 1) := by decide +kernel
theorem dX10_write_0 : decode cX10_write 0 = .ok (.aload_n 0, 1) := by decide +kernel
theorem dX10_write_1 : decode cX10_write 1 = .ok (.iconst 0, 1) := by decide +kernel
theorem dX10_write_2 : decode cX10_write 2 = .ok (.putfield 111, 3) := by decide +kernel
theorem dX10_write_5 : decode cX10_write 5 = .ok (.iload_n 1, 1) := by decide +kernel
theorem dX10_write_6 : decode cX10_write 6 = .ok (.invokestatic 120, 3) := by decide +kernel
theorem dX10_write_9 : decode cX10_write 9 = .ok (.ifCond .ne 6, 3) := by decide +kernel
theorem dX10_write_15 : decode cX10_write 15 = .ok (.aload_n 0, 1) := by decide +kernel
theorem dX10_write_16 : decode cX10_write 16 = .ok (.getfield 7, 3) := by decide +kernel
theorem dX10_write_19 : decode cX10_write 19 = .ok (.iload_n 1, 1) := by decide +kernel
theorem dX10_write_20 : decode cX10_write 20 = .ok (.iaload, 1) := by decide +kernel
theorem dX10_write_21 : decode cX10_write 21 = .ok (.iconst (-1), 1) := by decide +kernel
theorem dX10_write_22 : decode cX10_write 22 = .ok (.if_icmp .ne 6, 3) := by decide +kernel
theorem dX10_write_25 : decode cX10_write 25 = .ok (.bipush (-6), 2) := by decide +kernel
theorem dX10_write_27 : decode cX10_write 27 = .ok (.ireturn, 1) := by decide +kernel
theorem dX10_write_12 : decode cX10_write 12 = .ok (.bipush (-2), 2) := by decide +kernel
theorem dX10_write_14 : decode cX10_write 14 = .ok (.ireturn, 1) := by decide +kernel
theorem dX9_paste_0 : decode cX9_paste 0 = .ok (.iload_n 1, 1) := by decide +kernel
theorem dX9_paste_1 : decode cX9_paste 1 = .ok (.invokestatic 312, 3) := by decide +kernel
theorem dX9_paste_4 : decode cX9_paste 4 = .ok (.ifCond .eq 10, 3) := by decide +kernel
theorem dX9_paste_7 : decode cX9_paste 7 = .ok (.iload_n 3, 1) := by decide +kernel
theorem dX9_paste_8 : decode cX9_paste 8 = .ok (.invokestatic 312, 3) := by decide +kernel
theorem dX9_paste_11 : decode cX9_paste 11 = .ok (.ifCond .ne 6, 3) := by decide +kernel
theorem dX9_paste_17 : decode cX9_paste 17 = .ok (.aload_n 0, 1) := by decide +kernel
theorem dX9_paste_18 : decode cX9_paste 18 = .ok (.getfield 54, 3) := by decide +kernel
theorem dX9_paste_21 : decode cX9_paste 21 = .ok (.iload_n 1, 1) := by decide +kernel
theorem dX9_paste_22 : decode cX9_paste 22 = .ok (.aaload, 1) := by decide +kernel
theorem dX9_paste_23 : decode cX9_paste 23 = .ok (.astore 6, 2) := by decide +kernel
theorem dX9_paste_25 : decode cX9_paste 25 = .ok (.aload_n 0, 1) := by decide +kernel
theorem dX9_paste_26 : decode cX9_paste 26 = .ok (.getfield 54, 3) := by decide +kernel
theorem dX9_paste_29 : decode cX9_paste 29 = .ok (.iload_n 3, 1) := by decide +kernel
theorem dX9_paste_30 : decode cX9_paste 30 = .ok (.aaload, 1) := by decide +kernel
theorem dX9_paste_31 : decode cX9_paste 31 = .ok (.astore 7, 2) := by decide +kernel
theorem dX9_paste_33 : decode cX9_paste 33 = .ok (.aload 6, 2) := by decide +kernel
theorem dX9_paste_35 : decode cX9_paste 35 = .ok (.ifnull 8, 3) := by decide +kernel
theorem dX9_paste_43 : decode cX9_paste 43 = .ok (.bipush (-6), 2) := by decide +kernel
theorem dX9_paste_45 : decode cX9_paste 45 = .ok (.ireturn, 1) := by decide +kernel
theorem dX9_paste_14 : decode cX9_paste 14 = .ok (.bipush (-2), 2) := by decide +kernel
theorem dX9_paste_16 : decode cX9_paste 16 = .ok (.ireturn, 1) := by decide +kernel
theorem dX10_paste_0 : decode cX10_paste 0 = .ok (.aload_n 0, 1) := by decide +kernel
theorem dX10_paste_1 : decode cX10_paste 1 = .ok (.iconst 0, 1) := by decide +kernel
theorem dX10_paste_2 : decode cX10_paste 2 = .ok (.putfield 111, 3) := by decide +kernel
theorem dX10_paste_5 : decode cX10_paste 5 = .ok (.iload_n 1, 1) := by decide +kernel
theorem dX10_paste_6 : decode cX10_paste 6 = .ok (.invokestatic 120, 3) := by decide +kernel
theorem dX10_paste_9 : decode cX10_paste 9 = .ok (.ifCond .eq 10, 3) := by decide +kernel
theorem dX10_paste_12 : decode cX10_paste 12 = .ok (.iload_n 3, 1) := by decide +kernel
theorem dX10_paste_13 : decode cX10_paste 13 = .ok (.invokestatic 120, 3) := by decide +kernel
theorem dX10_paste_16 : decode cX10_paste 16 = .ok (.ifCond .ne 6, 3) := by decide +kernel
theorem dX10_paste_22 : decode cX10_paste 22 = .ok (.aload_n 0, 1) := by decide +kernel
theorem dX10_paste_23 : decode cX10_paste 23 = .ok (.getfield 7, 3) := by decide +kernel
theorem dX10_paste_26 : decode cX10_paste 26 = .ok (.iload_n 1, 1) := by decide +kernel
theorem dX10_paste_27 : decode cX10_paste 27 = .ok (.iaload, 1) := by decide +kernel
theorem dX10_paste_28 : decode cX10_paste 28 = .ok (.iconst (-1), 1) := by decide +kernel
theorem dX10_paste_29 : decode cX10_paste 29 = .ok (.if_icmp .eq 13, 3) := by decide +kernel
theorem dX10_paste_42 : decode cX10_paste 42 = .ok (.bipush (-6), 2) := by decide +kernel
theorem dX10_paste_44 : decode cX10_paste 44 = .ok (.ireturn, 1) := by decide +kernel
theorem dX10_paste_19 : decode cX10_paste 19 = .ok (.bipush (-2), 2) := by decide +kernel
theorem dX10_paste_21 : decode cX10_paste 21 = .ok (.ireturn, 1) := by decide +kernel
theorem dX6_init_0 : decode cX6_init 0 = .ok (.aload_n 0, 1) := by decide +kernel
theorem dX6_init_1 : decode cX6_init 1 = .ok (.invokespecial 1, 3) := by decide +kernel
theorem dX6_init_4 : decode cX6_init 4 = .ok (.aload_n 0, 1) := by decide +kernel
theorem dX6_init_5 : decode cX6_init 5 = .ok (.iload_n 1, 1) := by decide +kernel
theorem dX6_init_6 : decode cX6_init 6 = .ok (.putfield 7, 3) := by decide +kernel
theorem dX6_init_9 : decode cX6_init 9 = .ok (.aload_n 0, 1) := by decide +kernel
theorem dX6_init_10 : decode cX6_init 10 = .ok (.iconst 0, 1) := by decide +kernel
theorem dX6_init_11 : decode cX6_init 11 = .ok (.iload_n 2, 1) := by decide +kernel
theorem dX6_init_12 : decode cX6_init 12 = .ok (.invokestatic 13, 3) := by decide +kernel
theorem dX6_init_15 : decode cX6_init 15 = .ok (.newarray .long, 2) := by decide +kernel
theorem dX6_init_17 : decode cX6_init 17 = .ok (.putfield 19, 3) := by decide +kernel
theorem dX6_init_20 : decode cX6_init 20 = .ok (.return_, 1) := by decide +kernel
theorem dX9_row_0 : decode cX9_row 0 = .ok (.iload_n 1, 1) := by decide +kernel
theorem dX9_row_1 : decode cX9_row 1 = .ok (.invokestatic 312, 3) := by decide +kernel
theorem dX9_row_4 : decode cX9_row 4 = .ok (.ifCond .eq 18, 3) := by decide +kernel
theorem dX9_row_7 : decode cX9_row 7 = .ok (.iload_n 2, 1) := by decide +kernel
theorem dX9_row_8 : decode cX9_row 8 = .ok (.ifCond .lt 14, 3) := by decide +kernel
theorem dX9_row_22 : decode cX9_row 22 = .ok (.bipush (-2), 2) := by decide +kernel
theorem dX9_row_24 : decode cX9_row 24 = .ok (.ireturn, 1) := by decide +kernel
theorem dX9_row_11 : decode cX9_row 11 = .ok (.iload_n 2, 1) := by decide +kernel
theorem dX9_row_12 : decode cX9_row 12 = .ok (.iconst 3, 1) := by decide +kernel
theorem dX9_row_13 : decode cX9_row 13 = .ok (.if_icmp .gt 9, 3) := by decide +kernel
theorem dX9_row_16 : decode cX9_row 16 = .ok (.iload_n 3, 1) := by decide +kernel
theorem dX9_row_17 : decode cX9_row 17 = .ok (.bipush 60, 2) := by decide +kernel
theorem dX9_row_19 : decode cX9_row 19 = .ok (.if_icmp .le 6, 3) := by decide +kernel
theorem dX9_row_25 : decode cX9_row 25 = .ok (.iload_n 3, 1) := by decide +kernel
theorem dX9_row_26 : decode cX9_row 26 = .ok (.ifCond .ge 6, 3) := by decide +kernel
theorem dX9_row_32 : decode cX9_row 32 = .ok (.aload_n 0, 1) := by decide +kernel
theorem dX9_row_33 : decode cX9_row 33 = .ok (.getfield 54, 3) := by decide +kernel
theorem dX9_row_36 : decode cX9_row 36 = .ok (.iload_n 1, 1) := by decide +kernel
theorem dX9_row_37 : decode cX9_row 37 = .ok (.new 52, 3) := by decide +kernel
theorem dX9_row_40 : decode cX9_row 40 = .ok (.dup, 1) := by decide +kernel
theorem dX9_row_41 : decode cX9_row 41 = .ok (.iload_n 2, 1) := by decide +kernel
theorem dX9_row_42 : decode cX9_row 42 = .ok (.iload_n 3, 1) := by decide +kernel
theorem dX9_row_43 : decode cX9_row 43 = .ok (.invokespecial 364, 3) := by decide +kernel
theorem dX9_row_46 : decode cX9_row 46 = .ok (.aastore, 1) := by decide +kernel
theorem dX9_row_47 : decode cX9_row 47 = .ok (.iconst 0, 1) := by decide +kernel
theorem dX9_row_48 : decode cX9_row 48 = .ok (.ireturn, 1) := by decide +kernel
theorem dX9_row_29 : decode cX9_row 29 = .ok (.bipush (-3), 2) := by decide +kernel
theorem dX9_row_31 : decode cX9_row 31 = .ok (.ireturn, 1) := by decide +kernel
theorem dX1_init_0 : decode cX1_init 0 = .ok (.aload_n 0, 1) := by decide +kernel
theorem dX1_init_1 : decode cX1_init 1 = .ok (.invokespecial 1, 3) := by decide +kernel
theorem dX1_init_4 : decode cX1_init 4 = .ok (.aload_n 0, 1) := by decide +kernel
theorem dX1_init_5 : decode cX1_init 5 = .ok (.aload_n 1, 1) := by decide +kernel
theorem dX1_init_6 : decode cX1_init 6 = .ok (.putfield 7, 3) := by decide +kernel
theorem dX1_init_9 : decode cX1_init 9 = .ok (.aload_n 0, 1) := by decide +kernel
theorem dX1_init_10 : decode cX1_init 10 = .ok (.aload_n 2, 1) := by decide +kernel
theorem dX1_init_11 : decode cX1_init 11 = .ok (.putfield 13, 3) := by decide +kernel
theorem dX1_init_14 : decode cX1_init 14 = .ok (.return_, 1) := by decide +kernel
theorem dX9_keep_0 : decode cX9_keep 0 = .ok (.iload_n 1, 1) := by decide +kernel
theorem dX9_keep_1 : decode cX9_keep 1 = .ok (.ifCond .lt 8, 3) := by decide +kernel
theorem dX9_keep_9 : decode cX9_keep 9 = .ok (.bipush (-2), 2) := by decide +kernel
theorem dX9_keep_11 : decode cX9_keep 11 = .ok (.ireturn, 1) := by decide +kernel
theorem dX9_keep_4 : decode cX9_keep 4 = .ok (.iload_n 1, 1) := by decide +kernel
theorem dX9_keep_5 : decode cX9_keep 5 = .ok (.iconst 3, 1) := by decide +kernel
theorem dX9_keep_6 : decode cX9_keep 6 = .ok (.if_icmp .lt 6, 3) := by decide +kernel
theorem dX9_keep_12 : decode cX9_keep 12 = .ok (.aload_n 0, 1) := by decide +kernel
theorem dX9_keep_13 : decode cX9_keep 13 = .ok (.getfield 60, 3) := by decide +kernel
theorem dX9_keep_16 : decode cX9_keep 16 = .ok (.iload_n 1, 1) := by decide +kernel
theorem dX9_keep_17 : decode cX9_keep 17 = .ok (.new 58, 3) := by decide +kernel
theorem dX9_keep_20 : decode cX9_keep 20 = .ok (.dup, 1) := by decide +kernel
theorem dX9_keep_21 : decode cX9_keep 21 = .ok (.aload_n 0, 1) := by decide +kernel
theorem dX9_keep_22 : decode cX9_keep 22 = .ok (.getfield 67, 3) := by decide +kernel
theorem dX9_keep_25 : decode cX9_keep 25 = .ok (.aload_n 0, 1) := by decide +kernel
theorem dX9_keep_26 : decode cX9_keep 26 = .ok (.getfield 93, 3) := by decide +kernel
theorem dX9_keep_29 : decode cX9_keep 29 = .ok (.invokespecial 359, 3) := by decide +kernel
theorem dX9_keep_32 : decode cX9_keep 32 = .ok (.aastore, 1) := by decide +kernel
theorem dX9_keep_33 : decode cX9_keep 33 = .ok (.iconst 0, 1) := by decide +kernel
theorem dX9_keep_34 : decode cX9_keep 34 = .ok (.ireturn, 1) := by decide +kernel
theorem sV_X9_355 : SiteV RX9 355 yX9_slotsInUse cX9_slotsInUse 3 (some .int) 0 := ⟨ml_X9_355, im_X9_slotsInUse, se_X9_slotsInUse, ini_X9, co_X9_slotsInUse, by decide +kernel⟩
theorem sI_X9_364 : SiteI RX9 364 yX6_init cX6_init 3 2 := ⟨ml_X9_364, im_X6_init, ini_X6, co_X6_init, rfl, by decide +kernel⟩
theorem sI_X9_359 : SiteI RX9 359 yX1_init cX1_init 3 2 := ⟨ml_X9_359, im_X1_init, ini_X1, co_X1_init, rfl, by decide +kernel⟩
set_option maxHeartbeats 4000000 in
set_option maxRecDepth 100000 in
theorem f_X9_end (l : Launch) (D : va_G) (cy : Nat → ClassId) (xa : Nat → Nat) (n0 : Int32) (sz : Nat) : MM l yX9_end cX9_end 2 (some .int) 0 0 0 D cy [.ref (xa 0), .int n0] (PW D [((xa 0), .inr (9, [.ref (xa 1), .ref (xa 2), .ref (xa 3), .ref (xa 4), .ref (xa 5), .ref (xa 6), .ref (xa 7), .ref (xa 8), .ref (xa 9), .int 0, .ref (xa 11), .null, .int 0, .int (-1)]))] sz) (QW D (va_A [((xa 0), .inr (9, [.ref (xa 1), .ref (xa 2), .ref (xa 3), .ref (xa 4), .ref (xa 5), .ref (xa 6), .ref (xa 7), .ref (xa 8), .ref (xa 9), .int 0, .ref (xa 11), .null, .int 0, .int (-1)]))] sz) (S := Unit) (fun v u => (∃ r : Int32, v = some (.int r) ∧ ((r = n0 ∧ n0.toInt = 0) ∨ (r = (-1) ∧ (n0.toInt < 0 ∨ 0 < n0.toInt))))) (fun u => [])) (va_A [((xa 0), .inr (9, [.ref (xa 1), .ref (xa 2), .ref (xa 3), .ref (xa 4), .ref (xa 5), .ref (xa 6), .ref (xa 7), .ref (xa 8), .ref (xa 9), .int 0, .ref (xa 11), .null, .int 0, .int (-1)]))] sz) := by
  refine MM.of (by decide) (Nat.le_of_ble_eq_true rfl) ?_
  intro p e s m below meth c C hPW ls hl
  obtain ⟨hx, hb, hr, hml, hown, hts, hlocks, hK, hnm⟩ := C
  obtain ⟨rfl, hP, hD0⟩ := hPW
  have hD := hD0.self (sz := s.heap.size)
  have hA : ∀ q : Nat, s.heap.size ≤ q → (va_A [((xa 0), .inr (9, [.ref (xa 1), .ref (xa 2), .ref (xa 3), .ref (xa 4), .ref (xa 5), .ref (xa 6), .ref (xa 7), .ref (xa 8), .ref (xa 9), .int 0, .ref (xa 11), .null, .int 0, .int (-1)]))] s.heap.size) q := fun q h => Or.inr h
  have hS : va_S (va_A [((xa 0), .inr (9, [.ref (xa 1), .ref (xa 2), .ref (xa 3), .ref (xa 4), .ref (xa 5), .ref (xa 6), .ref (xa 7), .ref (xa 8), .ref (xa 9), .int 0, .ref (xa 11), .null, .int 0, .int (-1)]))] s.heap.size) s.heap s.heap [] := va_S.rf
  generalize va_A [((xa 0), .inr (9, [.ref (xa 1), .ref (xa 2), .ref (xa 3), .ref (xa 4), .ref (xa 5), .ref (xa 6), .ref (xa 7), .ref (xa 8), .ref (xa 9), .int 0, .ref (xa 11), .null, .int 0, .int (-1)]))] s.heap.size = A at hD hA hS ⊢
  have hP : va_P D vwCl [((xa 0), .inr (9, [.ref (xa 1), .ref (xa 2), .ref (xa 3), .ref (xa 4), .ref (xa 5), .ref (xa 6), .ref (xa 7), .ref (xa 8), .ref (xa 9), .int 0, .ref (xa 11), .null, .int 0, .int (-1)]))] s.heap := hP
  have hl : lv_has ls 2 [(0, .ref (xa 0)), (1, .int n0)] := hl
  refine lv_iload_n hx hb dX9_end_0 rfl (lv_at hl 1 rfl) ?_
  refine lv_if_lt (tgt := 12) hx hb dX9_end_1 (by decide) (fun c_1 => ?_) (fun c_1 => ?_)
  · skip
    have tc_1 : n0.toInt < 0 := (fa_lt _ _).mp c_1
    refine lv_iconst (v := (-1)) hx hb dX9_end_12 (by decide) ?_
    exact ret_i hx hb hr hlocks ⟨⟨hS.1, hS.2.1⟩, (), ⟨_, rfl, (Or.inr ⟨rfl, (by omega)⟩)⟩, hP.sub [] rfl, hD.sub [] (by decide) rfl⟩ hS.2.2 (Nat.le_of_ble_eq_true rfl) (Nat.le_of_ble_eq_true rfl) dX9_end_13
  · skip
    have tc_1 : ¬ n0.toInt < 0 := fun h => c_1 ((fa_lt _ _).mpr h)
    refine lv_iload_n hx hb dX9_end_4 rfl (lv_at hl 1 rfl) ?_
    refine lv_aload_n hx hb dX9_end_5 rfl (lv_at hl 0 rfl) ?_
    refine va_get (D := D) (ci := 9) (v := .int 0) (C := RX9) (T := TX9) (N := 14) hx hb hts lay_X9 hown hK.1 hP 0 rfl rfl 9 (by decide) (hts _ fl_X9_75) (fun _ h9 => h9) rfl dX9_end_6 ?_
    refine lv_icmp_le (tgt := 14) hx hb dX9_end_9 (by decide) (fun c_2 => ?_) (fun c_2 => ?_)
    · skip
      have tc_2 : n0.toInt ≤ 0 := (fa_le _ _).mp c_2
      refine lv_aload_n hx hb dX9_end_14 rfl (lv_at hl 0 rfl) ?_
      refine lv_iload_n hx hb dX9_end_15 rfl (lv_at hl 1 rfl) ?_
      refine va_put (D := D) (ci := 9) (v := .int n0) (ty := tyX9 9) (C := RX9) (T := TX9) (N := 14) hx hb hts lay_X9 tyX9 tyX9_ok nmX9 hown hK.1 hP hD hS 0 rfl rfl 9 (by decide) (hts _ fl_X9_75) (fun _ h9 => h9) rfl (tyX9_ok 9 (by decide)) rfl rfl (Nat.le_of_ble_eq_true rfl) dX9_end_16 (fun H locs hP hD hS => ?_)
      have hP : va_P D vwCl [((xa 0), .inr (9, [.ref (xa 1), .ref (xa 2), .ref (xa 3), .ref (xa 4), .ref (xa 5), .ref (xa 6), .ref (xa 7), .ref (xa 8), .ref (xa 9), .int n0, .ref (xa 11), .null, .int 0, .int (-1)]))] H := hP
      have hD : va_D A [((xa 0), .inr (9, [.ref (xa 1), .ref (xa 2), .ref (xa 3), .ref (xa 4), .ref (xa 5), .ref (xa 6), .ref (xa 7), .ref (xa 8), .ref (xa 9), .int n0, .ref (xa 11), .null, .int 0, .int (-1)]))] := hD
      refine lv_iload_n hx hb dX9_end_19 rfl (lv_at hl 1 rfl) ?_
      exact ret_i hx hb hr hlocks ⟨⟨hS.1, hS.2.1⟩, (), ⟨_, rfl, (Or.inl ⟨rfl, (by omega)⟩)⟩, hP.sub [] rfl, hD.sub [] (by decide) rfl⟩ hS.2.2 (Nat.le_of_ble_eq_true rfl) (Nat.le_of_ble_eq_true rfl) dX9_end_20
    · skip
      have tc_2 : ¬ n0.toInt ≤ 0 := fun h => c_2 ((fa_le _ _).mpr h)
      refine lv_iconst (v := (-1)) hx hb dX9_end_12 (by decide) ?_
      exact ret_i hx hb hr hlocks ⟨⟨hS.1, hS.2.1⟩, (), ⟨_, rfl, (Or.inr ⟨rfl, (by omega)⟩)⟩, hP.sub [] rfl, hD.sub [] (by decide) rfl⟩ hS.2.2 (Nat.le_of_ble_eq_true rfl) (Nat.le_of_ble_eq_true rfl) dX9_end_13
set_option maxHeartbeats 4000000 in
set_option maxRecDepth 100000 in
theorem g_X10_end (l : Launch) (D : va_G) (cy : Nat → ClassId) (ma : Nat → Nat) (n0 : Int32) (sz : Nat) : MM l yX10_end cX10_end 2 (some .int) 1 0 0 D cy [.ref (ma 0), .int n0] (PW D [((ma 0), .inr (10, [.int 0, .ref (ma 1), .ref (ma 2), .ref (ma 3), .ref (ma 4), .ref (ma 5), .int 0, .int 0, .int 0, .int 0, .int 0, .long 0, .int 0, .int 0, .int 0, .int (-1), .ref (ma 16), .ref (ma 17), .ref (ma 18), .ref (ma 19), .ref (ma 20), .ref (ma 21), .ref (ma 22), .ref (ma 23), .ref (ma 24), .ref (ma 25), .ref (ma 26), .ref (ma 27), .ref (ma 28), .ref (ma 29), .ref (ma 30), .ref (ma 31), .ref (ma 32), .ref (ma 33), .ref (ma 34), .ref (ma 35), .ref (ma 36), .ref (ma 37), .ref (ma 38), .ref (ma 39), .ref (ma 40), .ref (ma 41), .long 0]))] sz) (QW D (va_A [((ma 0), .inr (10, [.int 0, .ref (ma 1), .ref (ma 2), .ref (ma 3), .ref (ma 4), .ref (ma 5), .int 0, .int 0, .int 0, .int 0, .int 0, .long 0, .int 0, .int 0, .int 0, .int (-1), .ref (ma 16), .ref (ma 17), .ref (ma 18), .ref (ma 19), .ref (ma 20), .ref (ma 21), .ref (ma 22), .ref (ma 23), .ref (ma 24), .ref (ma 25), .ref (ma 26), .ref (ma 27), .ref (ma 28), .ref (ma 29), .ref (ma 30), .ref (ma 31), .ref (ma 32), .ref (ma 33), .ref (ma 34), .ref (ma 35), .ref (ma 36), .ref (ma 37), .ref (ma 38), .ref (ma 39), .ref (ma 40), .ref (ma 41), .long 0]))] sz) (S := Unit) (fun v u => (∃ r : Int32, v = some (.int r) ∧ ((r = n0 ∧ n0.toInt = 0) ∨ (r = (-1) ∧ (n0.toInt < 0 ∨ 0 < n0.toInt))))) (fun u => [])) (va_A [((ma 0), .inr (10, [.int 0, .ref (ma 1), .ref (ma 2), .ref (ma 3), .ref (ma 4), .ref (ma 5), .int 0, .int 0, .int 0, .int 0, .int 0, .long 0, .int 0, .int 0, .int 0, .int (-1), .ref (ma 16), .ref (ma 17), .ref (ma 18), .ref (ma 19), .ref (ma 20), .ref (ma 21), .ref (ma 22), .ref (ma 23), .ref (ma 24), .ref (ma 25), .ref (ma 26), .ref (ma 27), .ref (ma 28), .ref (ma 29), .ref (ma 30), .ref (ma 31), .ref (ma 32), .ref (ma 33), .ref (ma 34), .ref (ma 35), .ref (ma 36), .ref (ma 37), .ref (ma 38), .ref (ma 39), .ref (ma 40), .ref (ma 41), .long 0]))] sz) := by
  refine MM.of (by decide) (Nat.le_of_ble_eq_true rfl) ?_
  intro p e s m below meth c C hPW ls hl
  obtain ⟨hx, hb, hr, hml, hown, hts, hlocks, hK, hnm⟩ := C
  obtain ⟨rfl, hP, hD0⟩ := hPW
  have hD := hD0.self (sz := s.heap.size)
  have hA : ∀ q : Nat, s.heap.size ≤ q → (va_A [((ma 0), .inr (10, [.int 0, .ref (ma 1), .ref (ma 2), .ref (ma 3), .ref (ma 4), .ref (ma 5), .int 0, .int 0, .int 0, .int 0, .int 0, .long 0, .int 0, .int 0, .int 0, .int (-1), .ref (ma 16), .ref (ma 17), .ref (ma 18), .ref (ma 19), .ref (ma 20), .ref (ma 21), .ref (ma 22), .ref (ma 23), .ref (ma 24), .ref (ma 25), .ref (ma 26), .ref (ma 27), .ref (ma 28), .ref (ma 29), .ref (ma 30), .ref (ma 31), .ref (ma 32), .ref (ma 33), .ref (ma 34), .ref (ma 35), .ref (ma 36), .ref (ma 37), .ref (ma 38), .ref (ma 39), .ref (ma 40), .ref (ma 41), .long 0]))] s.heap.size) q := fun q h => Or.inr h
  have hS : va_S (va_A [((ma 0), .inr (10, [.int 0, .ref (ma 1), .ref (ma 2), .ref (ma 3), .ref (ma 4), .ref (ma 5), .int 0, .int 0, .int 0, .int 0, .int 0, .long 0, .int 0, .int 0, .int 0, .int (-1), .ref (ma 16), .ref (ma 17), .ref (ma 18), .ref (ma 19), .ref (ma 20), .ref (ma 21), .ref (ma 22), .ref (ma 23), .ref (ma 24), .ref (ma 25), .ref (ma 26), .ref (ma 27), .ref (ma 28), .ref (ma 29), .ref (ma 30), .ref (ma 31), .ref (ma 32), .ref (ma 33), .ref (ma 34), .ref (ma 35), .ref (ma 36), .ref (ma 37), .ref (ma 38), .ref (ma 39), .ref (ma 40), .ref (ma 41), .long 0]))] s.heap.size) s.heap s.heap [] := va_S.rf
  generalize va_A [((ma 0), .inr (10, [.int 0, .ref (ma 1), .ref (ma 2), .ref (ma 3), .ref (ma 4), .ref (ma 5), .int 0, .int 0, .int 0, .int 0, .int 0, .long 0, .int 0, .int 0, .int 0, .int (-1), .ref (ma 16), .ref (ma 17), .ref (ma 18), .ref (ma 19), .ref (ma 20), .ref (ma 21), .ref (ma 22), .ref (ma 23), .ref (ma 24), .ref (ma 25), .ref (ma 26), .ref (ma 27), .ref (ma 28), .ref (ma 29), .ref (ma 30), .ref (ma 31), .ref (ma 32), .ref (ma 33), .ref (ma 34), .ref (ma 35), .ref (ma 36), .ref (ma 37), .ref (ma 38), .ref (ma 39), .ref (ma 40), .ref (ma 41), .long 0]))] s.heap.size = A at hD hA hS ⊢
  have hP : va_P D vwCl [((ma 0), .inr (10, [.int 0, .ref (ma 1), .ref (ma 2), .ref (ma 3), .ref (ma 4), .ref (ma 5), .int 0, .int 0, .int 0, .int 0, .int 0, .long 0, .int 0, .int 0, .int 0, .int (-1), .ref (ma 16), .ref (ma 17), .ref (ma 18), .ref (ma 19), .ref (ma 20), .ref (ma 21), .ref (ma 22), .ref (ma 23), .ref (ma 24), .ref (ma 25), .ref (ma 26), .ref (ma 27), .ref (ma 28), .ref (ma 29), .ref (ma 30), .ref (ma 31), .ref (ma 32), .ref (ma 33), .ref (ma 34), .ref (ma 35), .ref (ma 36), .ref (ma 37), .ref (ma 38), .ref (ma 39), .ref (ma 40), .ref (ma 41), .long 0]))] s.heap := hP
  have hl : lv_has ls 2 [(0, .ref (ma 0)), (1, .int n0)] := hl
  refine lv_aload_n hx hb dX10_end_0 rfl (lv_at hl 0 rfl) ?_
  refine lv_iconst (v := 0) hx hb dX10_end_1 (by decide) ?_
  refine va_put (D := D) (ci := 10) (v := .int 0) (ty := tyX10 0) (C := RX10) (T := TX10) (N := 43) hx hb hts lay_X10 tyX10 tyX10_ok nmX10 hown hK.1 hP hD hS 0 rfl rfl 0 (by decide) (hts _ fl_X10_111) (fun _ h9 => h9) rfl (tyX10_ok 0 (by decide)) rfl rfl (Nat.le_of_ble_eq_true rfl) dX10_end_2 (fun H locs hP hD hS => ?_)
  have hP : va_P D vwCl [((ma 0), .inr (10, [.int 0, .ref (ma 1), .ref (ma 2), .ref (ma 3), .ref (ma 4), .ref (ma 5), .int 0, .int 0, .int 0, .int 0, .int 0, .long 0, .int 0, .int 0, .int 0, .int (-1), .ref (ma 16), .ref (ma 17), .ref (ma 18), .ref (ma 19), .ref (ma 20), .ref (ma 21), .ref (ma 22), .ref (ma 23), .ref (ma 24), .ref (ma 25), .ref (ma 26), .ref (ma 27), .ref (ma 28), .ref (ma 29), .ref (ma 30), .ref (ma 31), .ref (ma 32), .ref (ma 33), .ref (ma 34), .ref (ma 35), .ref (ma 36), .ref (ma 37), .ref (ma 38), .ref (ma 39), .ref (ma 40), .ref (ma 41), .long 0]))] H := hP
  have hD : va_D A [((ma 0), .inr (10, [.int 0, .ref (ma 1), .ref (ma 2), .ref (ma 3), .ref (ma 4), .ref (ma 5), .int 0, .int 0, .int 0, .int 0, .int 0, .long 0, .int 0, .int 0, .int 0, .int (-1), .ref (ma 16), .ref (ma 17), .ref (ma 18), .ref (ma 19), .ref (ma 20), .ref (ma 21), .ref (ma 22), .ref (ma 23), .ref (ma 24), .ref (ma 25), .ref (ma 26), .ref (ma 27), .ref (ma 28), .ref (ma 29), .ref (ma 30), .ref (ma 31), .ref (ma 32), .ref (ma 33), .ref (ma 34), .ref (ma 35), .ref (ma 36), .ref (ma 37), .ref (ma 38), .ref (ma 39), .ref (ma 40), .ref (ma 41), .long 0]))] := hD
  refine lv_iload_n hx hb dX10_end_5 rfl (lv_at hl 1 rfl) ?_
  refine lv_i2l hx hb dX10_end_6 rfl ?_
  refine lv_topl (fun z_1 ez_1 => ?_)
  have tz_1 : z_1.toInt = n0.toInt := by rw [ez_1]; exact wide_t n0
  refine lv_lconst (v := 0) hx hb dX10_end_7 (by decide) ?_
  refine lv_aload_n hx hb dX10_end_8 rfl (lv_at hl 0 rfl) ?_
  refine va_get (D := D) (ci := 10) (v := .int 0) (C := RX10) (T := TX10) (N := 43) hx hb hts lay_X10 hown hK.1 hP 0 rfl rfl 6 (by decide) (hts _ fl_X10_128) (fun _ h9 => h9) rfl dX10_end_9 ?_
  refine lv_i2l hx hb dX10_end_12 rfl ?_
  refine lv_topl (fun z_2 ez_2 => ?_)
  have ez_2 : z_2 = 0 := ez_2.trans (by decide)
  subst ez_2
  refine pu_calli (runS (As := [.long z_1, .long 0, .long 0]) (rest := []) ⟨hx, hb, hml, hown, hts⟩ (m_in l D cy z_1 0 0 ) sS_X10_116 hK (hP.sub (ws' := []) [] rfl) ⟨Nat.le_of_ble_eq_true rfl, Nat.le_of_ble_eq_true rfl⟩ rfl hl.1 rfl (Nat.le_of_ble_eq_true rfl) dX10_end_13 ⟨Nat.le_of_ble_eq_true rfl, Nat.le_of_ble_eq_true rfl⟩) (fun r_3 hr_3 => ?_)
  rcases hr_3 with hr_3_0 | hr_3_1
  · skip
    obtain ⟨er_3, hr_3_0_f0, hr_3_0_f1⟩ := hr_3_0
    have hr_3_0_f0 : 0 ≤ z_1.toInt := hr_3_0_f0
    have hr_3_0_f1 : z_1.toInt ≤ 0 := hr_3_0_f1
    subst er_3
    refine W.eq (g2 := F0 m 16 ls [.int 1]) rfl ?_
    refine lv_if_ne (tgt := 21) hx hb dX10_end_16 (by decide) (fun _ => ?_) (fun c_4 => absurd c_4 (by decide))
    refine lv_aload_n hx hb dX10_end_21 rfl (lv_at hl 0 rfl) ?_
    refine lv_iload_n hx hb dX10_end_22 rfl (lv_at hl 1 rfl) ?_
    refine va_put (D := D) (ci := 10) (v := .int n0) (ty := tyX10 6) (C := RX10) (T := TX10) (N := 43) hx hb hts lay_X10 tyX10 tyX10_ok nmX10 hown hK.1 hP hD hS 0 rfl rfl 6 (by decide) (hts _ fl_X10_128) (fun _ h9 => h9) rfl (tyX10_ok 6 (by decide)) rfl rfl (Nat.le_of_ble_eq_true rfl) dX10_end_23 (fun H locs hP hD hS => ?_)
    have hP : va_P D vwCl [((ma 0), .inr (10, [.int 0, .ref (ma 1), .ref (ma 2), .ref (ma 3), .ref (ma 4), .ref (ma 5), .int n0, .int 0, .int 0, .int 0, .int 0, .long 0, .int 0, .int 0, .int 0, .int (-1), .ref (ma 16), .ref (ma 17), .ref (ma 18), .ref (ma 19), .ref (ma 20), .ref (ma 21), .ref (ma 22), .ref (ma 23), .ref (ma 24), .ref (ma 25), .ref (ma 26), .ref (ma 27), .ref (ma 28), .ref (ma 29), .ref (ma 30), .ref (ma 31), .ref (ma 32), .ref (ma 33), .ref (ma 34), .ref (ma 35), .ref (ma 36), .ref (ma 37), .ref (ma 38), .ref (ma 39), .ref (ma 40), .ref (ma 41), .long 0]))] H := hP
    have hD : va_D A [((ma 0), .inr (10, [.int 0, .ref (ma 1), .ref (ma 2), .ref (ma 3), .ref (ma 4), .ref (ma 5), .int n0, .int 0, .int 0, .int 0, .int 0, .long 0, .int 0, .int 0, .int 0, .int (-1), .ref (ma 16), .ref (ma 17), .ref (ma 18), .ref (ma 19), .ref (ma 20), .ref (ma 21), .ref (ma 22), .ref (ma 23), .ref (ma 24), .ref (ma 25), .ref (ma 26), .ref (ma 27), .ref (ma 28), .ref (ma 29), .ref (ma 30), .ref (ma 31), .ref (ma 32), .ref (ma 33), .ref (ma 34), .ref (ma 35), .ref (ma 36), .ref (ma 37), .ref (ma 38), .ref (ma 39), .ref (ma 40), .ref (ma 41), .long 0]))] := hD
    refine lv_iload_n hx hb dX10_end_26 rfl (lv_at hl 1 rfl) ?_
    exact ret_i hx hb hr hlocks ⟨⟨hS.1, hS.2.1⟩, (), ⟨_, rfl, (Or.inl ⟨rfl, (by omega)⟩)⟩, hP.sub [] rfl, hD.sub [] (by decide) rfl⟩ hS.2.2 (Nat.le_of_ble_eq_true rfl) (Nat.le_of_ble_eq_true rfl) dX10_end_27
  · skip
    obtain ⟨er_3, hr_3_1_f0⟩ := hr_3_1
    have hr_3_1_f0 : (z_1.toInt < 0 ∨ 0 < z_1.toInt) := hr_3_1_f0
    subst er_3
    refine W.eq (g2 := F0 m 16 ls [.int 0]) rfl ?_
    refine lv_if_ne (tgt := 21) hx hb dX10_end_16 (by decide) (fun c_5 => absurd rfl c_5) (fun _ => ?_)
    refine lv_iconst (v := (-1)) hx hb dX10_end_19 (by decide) ?_
    exact ret_i hx hb hr hlocks ⟨⟨hS.1, hS.2.1⟩, (), ⟨_, rfl, (Or.inr ⟨rfl, (by omega)⟩)⟩, hP.sub [] rfl, hD.sub [] (by decide) rfl⟩ hS.2.2 (Nat.le_of_ble_eq_true rfl) (Nat.le_of_ble_eq_true rfl) dX10_end_20
set_option maxHeartbeats 4000000 in
set_option maxRecDepth 100000 in
theorem f_X9_fault (l : Launch) (D : va_G) (cy : Nat → ClassId) (xa : Nat → Nat) (n0 : Int32) : MM l yX9_fault cX9_fault 2 (some .int) 0 0 0 D cy [.ref (xa 0), .int n0] (fun H => va_P D vwCl [((xa 0), .inr (9, [.ref (xa 1), .ref (xa 2), .ref (xa 3), .ref (xa 4), .ref (xa 5), .ref (xa 6), .ref (xa 7), .ref (xa 8), .ref (xa 9), .int 0, .ref (xa 11), .null, .int 0, .int (-1)]))] H) (PuI (fun r => (r = 0 ∧ n0.toInt = 0) ∨ (r = (-1) ∧ n0.toInt ≠ 0))) noF := by
  refine MM.of (by decide) (Nat.le_of_ble_eq_true rfl) ?_
  intro p e s m below meth c C hP ls hl
  obtain ⟨hx, hb, hr, hml, hown, hts, hlocks, hK, hnm⟩ := C
  have hP : va_P D vwCl [((xa 0), .inr (9, [.ref (xa 1), .ref (xa 2), .ref (xa 3), .ref (xa 4), .ref (xa 5), .ref (xa 6), .ref (xa 7), .ref (xa 8), .ref (xa 9), .int 0, .ref (xa 11), .null, .int 0, .int (-1)]))] s.heap := hP
  have hl : lv_has ls 2 [(0, .ref (xa 0)), (1, .int n0)] := hl
  refine lv_iload_n hx hb dX9_fault_0 rfl (lv_at hl 1 rfl) ?_
  refine lv_if_ne (tgt := 9) hx hb dX9_fault_1 (by decide) (fun c_1 => ?_) (fun c_1 => ?_)
  · skip
    have tc_1 : ¬ n0.toInt = 0 := fun h => c_1 ((fa_eq _ _).mpr h)
    refine lv_iload_n hx hb dX9_fault_9 rfl (lv_at hl 1 rfl) ?_
    refine lv_iconst (v := 1) hx hb dX9_fault_10 (by decide) ?_
    refine lv_icmp_ne (tgt := 21) hx hb dX9_fault_11 (by decide) (fun c_2 => ?_) (fun c_2 => ?_)
    · skip
      have tc_2 : ¬ n0.toInt = 1 := fun h => c_2 ((fa_eq _ _).mpr h)
      refine lv_iconst (v := (-1)) hx hb dX9_fault_21 (by decide) ?_
      exact ret_i hx hb hr hlocks ⟨rfl, _, rfl, (Or.inr ⟨rfl, (by omega)⟩)⟩ (fun _ h => absurd h List.not_mem_nil) (Nat.le_refl _) (Nat.le_refl _) dX9_fault_22
    · skip
      have tc_2 : n0.toInt = 1 := (fa_eq _ _).mp c_2
      refine lv_aload_n hx hb dX9_fault_14 rfl (lv_at hl 0 rfl) ?_
      refine va_get (D := D) (ci := 9) (v := .int (-1)) (C := RX9) (T := TX9) (N := 14) hx hb hts lay_X9 hown hK.1 hP 0 rfl rfl 13 (by decide) (hts _ fl_X9_71) (fun _ h9 => h9) rfl dX9_fault_15 ?_
      refine lv_goto (tgt := 22) hx hb dX9_fault_18 (by decide) ?_
      exact ret_i hx hb hr hlocks ⟨rfl, _, rfl, (Or.inr ⟨rfl, (by omega)⟩)⟩ (fun _ h => absurd h List.not_mem_nil) (Nat.le_refl _) (Nat.le_refl _) dX9_fault_22
  · skip
    have tc_1 : n0.toInt = 0 := (fa_eq _ _).mp c_1
    refine lv_aload_n hx hb dX9_fault_4 rfl (lv_at hl 0 rfl) ?_
    refine va_get (D := D) (ci := 9) (v := .int 0) (C := RX9) (T := TX9) (N := 14) hx hb hts lay_X9 hown hK.1 hP 0 rfl rfl 12 (by decide) (hts _ fl_X9_89) (fun _ h9 => h9) rfl dX9_fault_5 ?_
    exact ret_i hx hb hr hlocks ⟨rfl, _, rfl, (Or.inl ⟨rfl, (by omega)⟩)⟩ (fun _ h => absurd h List.not_mem_nil) (Nat.le_refl _) (Nat.le_refl _) dX9_fault_8
set_option maxHeartbeats 4000000 in
set_option maxRecDepth 100000 in
theorem g_X10_fault (l : Launch) (D : va_G) (cy : Nat → ClassId) (ma : Nat → Nat) (n0 : Int32) (sz : Nat) : MM l yX10_fault cX10_fault 2 (some .int) 0 0 0 D cy [.ref (ma 0), .int n0] (PW D [((ma 0), .inr (10, [.int 0, .ref (ma 1), .ref (ma 2), .ref (ma 3), .ref (ma 4), .ref (ma 5), .int 0, .int 0, .int 0, .int 0, .int 0, .long 0, .int 0, .int 0, .int 0, .int (-1), .ref (ma 16), .ref (ma 17), .ref (ma 18), .ref (ma 19), .ref (ma 20), .ref (ma 21), .ref (ma 22), .ref (ma 23), .ref (ma 24), .ref (ma 25), .ref (ma 26), .ref (ma 27), .ref (ma 28), .ref (ma 29), .ref (ma 30), .ref (ma 31), .ref (ma 32), .ref (ma 33), .ref (ma 34), .ref (ma 35), .ref (ma 36), .ref (ma 37), .ref (ma 38), .ref (ma 39), .ref (ma 40), .ref (ma 41), .long 0]))] sz) (QW D (va_A [((ma 0), .inr (10, [.int 0, .ref (ma 1), .ref (ma 2), .ref (ma 3), .ref (ma 4), .ref (ma 5), .int 0, .int 0, .int 0, .int 0, .int 0, .long 0, .int 0, .int 0, .int 0, .int (-1), .ref (ma 16), .ref (ma 17), .ref (ma 18), .ref (ma 19), .ref (ma 20), .ref (ma 21), .ref (ma 22), .ref (ma 23), .ref (ma 24), .ref (ma 25), .ref (ma 26), .ref (ma 27), .ref (ma 28), .ref (ma 29), .ref (ma 30), .ref (ma 31), .ref (ma 32), .ref (ma 33), .ref (ma 34), .ref (ma 35), .ref (ma 36), .ref (ma 37), .ref (ma 38), .ref (ma 39), .ref (ma 40), .ref (ma 41), .long 0]))] sz) (S := Unit) (fun v u => (∃ r : Int32, v = some (.int r) ∧ ((r = 0 ∧ n0.toInt = 0) ∨ (r = (-1) ∧ n0.toInt ≠ 0)))) (fun u => [])) (va_A [((ma 0), .inr (10, [.int 0, .ref (ma 1), .ref (ma 2), .ref (ma 3), .ref (ma 4), .ref (ma 5), .int 0, .int 0, .int 0, .int 0, .int 0, .long 0, .int 0, .int 0, .int 0, .int (-1), .ref (ma 16), .ref (ma 17), .ref (ma 18), .ref (ma 19), .ref (ma 20), .ref (ma 21), .ref (ma 22), .ref (ma 23), .ref (ma 24), .ref (ma 25), .ref (ma 26), .ref (ma 27), .ref (ma 28), .ref (ma 29), .ref (ma 30), .ref (ma 31), .ref (ma 32), .ref (ma 33), .ref (ma 34), .ref (ma 35), .ref (ma 36), .ref (ma 37), .ref (ma 38), .ref (ma 39), .ref (ma 40), .ref (ma 41), .long 0]))] sz) := by
  refine MM.of (by decide) (Nat.le_of_ble_eq_true rfl) ?_
  intro p e s m below meth c C hPW ls hl
  obtain ⟨hx, hb, hr, hml, hown, hts, hlocks, hK, hnm⟩ := C
  obtain ⟨rfl, hP, hD0⟩ := hPW
  have hD := hD0.self (sz := s.heap.size)
  have hA : ∀ q : Nat, s.heap.size ≤ q → (va_A [((ma 0), .inr (10, [.int 0, .ref (ma 1), .ref (ma 2), .ref (ma 3), .ref (ma 4), .ref (ma 5), .int 0, .int 0, .int 0, .int 0, .int 0, .long 0, .int 0, .int 0, .int 0, .int (-1), .ref (ma 16), .ref (ma 17), .ref (ma 18), .ref (ma 19), .ref (ma 20), .ref (ma 21), .ref (ma 22), .ref (ma 23), .ref (ma 24), .ref (ma 25), .ref (ma 26), .ref (ma 27), .ref (ma 28), .ref (ma 29), .ref (ma 30), .ref (ma 31), .ref (ma 32), .ref (ma 33), .ref (ma 34), .ref (ma 35), .ref (ma 36), .ref (ma 37), .ref (ma 38), .ref (ma 39), .ref (ma 40), .ref (ma 41), .long 0]))] s.heap.size) q := fun q h => Or.inr h
  have hS : va_S (va_A [((ma 0), .inr (10, [.int 0, .ref (ma 1), .ref (ma 2), .ref (ma 3), .ref (ma 4), .ref (ma 5), .int 0, .int 0, .int 0, .int 0, .int 0, .long 0, .int 0, .int 0, .int 0, .int (-1), .ref (ma 16), .ref (ma 17), .ref (ma 18), .ref (ma 19), .ref (ma 20), .ref (ma 21), .ref (ma 22), .ref (ma 23), .ref (ma 24), .ref (ma 25), .ref (ma 26), .ref (ma 27), .ref (ma 28), .ref (ma 29), .ref (ma 30), .ref (ma 31), .ref (ma 32), .ref (ma 33), .ref (ma 34), .ref (ma 35), .ref (ma 36), .ref (ma 37), .ref (ma 38), .ref (ma 39), .ref (ma 40), .ref (ma 41), .long 0]))] s.heap.size) s.heap s.heap [] := va_S.rf
  generalize va_A [((ma 0), .inr (10, [.int 0, .ref (ma 1), .ref (ma 2), .ref (ma 3), .ref (ma 4), .ref (ma 5), .int 0, .int 0, .int 0, .int 0, .int 0, .long 0, .int 0, .int 0, .int 0, .int (-1), .ref (ma 16), .ref (ma 17), .ref (ma 18), .ref (ma 19), .ref (ma 20), .ref (ma 21), .ref (ma 22), .ref (ma 23), .ref (ma 24), .ref (ma 25), .ref (ma 26), .ref (ma 27), .ref (ma 28), .ref (ma 29), .ref (ma 30), .ref (ma 31), .ref (ma 32), .ref (ma 33), .ref (ma 34), .ref (ma 35), .ref (ma 36), .ref (ma 37), .ref (ma 38), .ref (ma 39), .ref (ma 40), .ref (ma 41), .long 0]))] s.heap.size = A at hD hA hS ⊢
  have hP : va_P D vwCl [((ma 0), .inr (10, [.int 0, .ref (ma 1), .ref (ma 2), .ref (ma 3), .ref (ma 4), .ref (ma 5), .int 0, .int 0, .int 0, .int 0, .int 0, .long 0, .int 0, .int 0, .int 0, .int (-1), .ref (ma 16), .ref (ma 17), .ref (ma 18), .ref (ma 19), .ref (ma 20), .ref (ma 21), .ref (ma 22), .ref (ma 23), .ref (ma 24), .ref (ma 25), .ref (ma 26), .ref (ma 27), .ref (ma 28), .ref (ma 29), .ref (ma 30), .ref (ma 31), .ref (ma 32), .ref (ma 33), .ref (ma 34), .ref (ma 35), .ref (ma 36), .ref (ma 37), .ref (ma 38), .ref (ma 39), .ref (ma 40), .ref (ma 41), .long 0]))] s.heap := hP
  have hl : lv_has ls 2 [(0, .ref (ma 0)), (1, .int n0)] := hl
  refine lv_aload_n hx hb dX10_fault_0 rfl (lv_at hl 0 rfl) ?_
  refine lv_iconst (v := 0) hx hb dX10_fault_1 (by decide) ?_
  refine va_put (D := D) (ci := 10) (v := .int 0) (ty := tyX10 0) (C := RX10) (T := TX10) (N := 43) hx hb hts lay_X10 tyX10 tyX10_ok nmX10 hown hK.1 hP hD hS 0 rfl rfl 0 (by decide) (hts _ fl_X10_111) (fun _ h9 => h9) rfl (tyX10_ok 0 (by decide)) rfl rfl (Nat.le_of_ble_eq_true rfl) dX10_fault_2 (fun H locs hP hD hS => ?_)
  have hP : va_P D vwCl [((ma 0), .inr (10, [.int 0, .ref (ma 1), .ref (ma 2), .ref (ma 3), .ref (ma 4), .ref (ma 5), .int 0, .int 0, .int 0, .int 0, .int 0, .long 0, .int 0, .int 0, .int 0, .int (-1), .ref (ma 16), .ref (ma 17), .ref (ma 18), .ref (ma 19), .ref (ma 20), .ref (ma 21), .ref (ma 22), .ref (ma 23), .ref (ma 24), .ref (ma 25), .ref (ma 26), .ref (ma 27), .ref (ma 28), .ref (ma 29), .ref (ma 30), .ref (ma 31), .ref (ma 32), .ref (ma 33), .ref (ma 34), .ref (ma 35), .ref (ma 36), .ref (ma 37), .ref (ma 38), .ref (ma 39), .ref (ma 40), .ref (ma 41), .long 0]))] H := hP
  have hD : va_D A [((ma 0), .inr (10, [.int 0, .ref (ma 1), .ref (ma 2), .ref (ma 3), .ref (ma 4), .ref (ma 5), .int 0, .int 0, .int 0, .int 0, .int 0, .long 0, .int 0, .int 0, .int 0, .int (-1), .ref (ma 16), .ref (ma 17), .ref (ma 18), .ref (ma 19), .ref (ma 20), .ref (ma 21), .ref (ma 22), .ref (ma 23), .ref (ma 24), .ref (ma 25), .ref (ma 26), .ref (ma 27), .ref (ma 28), .ref (ma 29), .ref (ma 30), .ref (ma 31), .ref (ma 32), .ref (ma 33), .ref (ma 34), .ref (ma 35), .ref (ma 36), .ref (ma 37), .ref (ma 38), .ref (ma 39), .ref (ma 40), .ref (ma 41), .long 0]))] := hD
  refine lv_iload_n hx hb dX10_fault_5 rfl (lv_at hl 1 rfl) ?_
  refine lv_if_ne (tgt := 16) hx hb dX10_fault_6 (by decide) (fun c_1 => ?_) (fun c_1 => ?_)
  · skip
    have tc_1 : ¬ n0.toInt = 0 := fun h => c_1 ((fa_eq _ _).mpr h)
    refine lv_iload_n hx hb dX10_fault_16 rfl (lv_at hl 1 rfl) ?_
    refine lv_iconst (v := 1) hx hb dX10_fault_17 (by decide) ?_
    refine lv_icmp_ne (tgt := 28) hx hb dX10_fault_18 (by decide) (fun c_2 => ?_) (fun c_2 => ?_)
    · skip
      have tc_2 : ¬ n0.toInt = 1 := fun h => c_2 ((fa_eq _ _).mpr h)
      refine lv_iconst (v := (-1)) hx hb dX10_fault_28 (by decide) ?_
      exact ret_i hx hb hr hlocks ⟨⟨hS.1, hS.2.1⟩, (), ⟨_, rfl, (Or.inr ⟨rfl, (by omega)⟩)⟩, hP.sub [] rfl, hD.sub [] (by decide) rfl⟩ hS.2.2 (Nat.le_of_ble_eq_true rfl) (Nat.le_of_ble_eq_true rfl) dX10_fault_29
    · skip
      have tc_2 : n0.toInt = 1 := (fa_eq _ _).mp c_2
      refine lv_aload_n hx hb dX10_fault_21 rfl (lv_at hl 0 rfl) ?_
      refine va_get (D := D) (ci := 10) (v := .int (-1)) (C := RX10) (T := TX10) (N := 43) hx hb hts lay_X10 hown hK.1 hP 0 rfl rfl 15 (by decide) (hts _ fl_X10_27) (fun _ h9 => h9) rfl dX10_fault_22 ?_
      refine lv_goto (tgt := 29) hx hb dX10_fault_25 (by decide) ?_
      exact ret_i hx hb hr hlocks ⟨⟨hS.1, hS.2.1⟩, (), ⟨_, rfl, (Or.inr ⟨rfl, (by omega)⟩)⟩, hP.sub [] rfl, hD.sub [] (by decide) rfl⟩ hS.2.2 (Nat.le_of_ble_eq_true rfl) (Nat.le_of_ble_eq_true rfl) dX10_fault_29
  · skip
    have tc_1 : n0.toInt = 0 := (fa_eq _ _).mp c_1
    refine lv_aload_n hx hb dX10_fault_9 rfl (lv_at hl 0 rfl) ?_
    refine va_get (D := D) (ci := 10) (v := .int 0) (C := RX10) (T := TX10) (N := 43) hx hb hts lay_X10 hown hK.1 hP 0 rfl rfl 14 (by decide) (hts _ fl_X10_190) (fun _ h9 => h9) rfl dX10_fault_10 ?_
    refine lv_goto (tgt := 29) hx hb dX10_fault_13 (by decide) ?_
    exact ret_i hx hb hr hlocks ⟨⟨hS.1, hS.2.1⟩, (), ⟨_, rfl, (Or.inl ⟨rfl, (by omega)⟩)⟩, hP.sub [] rfl, hD.sub [] (by decide) rfl⟩ hS.2.2 (Nat.le_of_ble_eq_true rfl) (Nat.le_of_ble_eq_true rfl) dX10_fault_29
set_option maxHeartbeats 4000000 in
set_option maxRecDepth 100000 in
theorem f_slotsInUse (l : Launch) (D : va_G) (cy : Nat → ClassId) (xa : Nat → Nat) : MM l yX9_slotsInUse cX9_slotsInUse 3 (some .int) 0 0 0 D cy [.ref (xa 0)] (fun H => va_P D vwCl [((xa 0), .inr (9, [.ref (xa 1), .ref (xa 2), .ref (xa 3), .ref (xa 4), .ref (xa 5), .ref (xa 6), .ref (xa 7), .ref (xa 8), .ref (xa 9), .int 0, .ref (xa 11), .null, .int 0, .int (-1)])), ((xa 8), .inl (cy 4, 4, .inr (.inr (.inr (.inr (fun _ => none))))))] H) (PuI (fun r => r = 0)) noF := by
  refine MM.of (by decide) (Nat.le_of_ble_eq_true rfl) ?_
  intro p e s m below meth c C hP ls hl
  obtain ⟨hx, hb, hr, hml, hown, hts, hlocks, hK, hnm⟩ := C
  have hP : va_P D vwCl [((xa 0), .inr (9, [.ref (xa 1), .ref (xa 2), .ref (xa 3), .ref (xa 4), .ref (xa 5), .ref (xa 6), .ref (xa 7), .ref (xa 8), .ref (xa 9), .int 0, .ref (xa 11), .null, .int 0, .int (-1)])), ((xa 8), .inl (cy 4, 4, .inr (.inr (.inr (.inr (fun _ => none))))))] s.heap := hP
  have hl : lv_has ls 3 [(0, .ref (xa 0))] := hl
  refine lv_iconst (v := 0) hx hb dX9_slotsInUse_0 (by decide) ?_
  refine lv_istore_n (lv' := [(1, .int 0), (0, .ref (xa 0))]) hx hb dX9_slotsInUse_1 rfl hl (by decide) rfl (fun ls hl => ?_)
  refine lv_iconst (v := 0) hx hb dX9_slotsInUse_2 (by decide) ?_
  refine lv_istore_n (lv' := [(2, .int 0), (1, .int 0), (0, .ref (xa 0))]) hx hb dX9_slotsInUse_3 rfl hl (by decide) rfl (fun ls hl => ?_)
  refine lv_iload_n hx hb dX9_slotsInUse_4 rfl (lv_at hl 0 rfl) ?_
  refine lv_iconst (v := 4) hx hb dX9_slotsInUse_5 (by decide) ?_
  refine lv_icmp_ge (tgt := 32) hx hb dX9_slotsInUse_6 (by decide) (fun c_1 => absurd c_1 (by decide)) (fun _ => ?_)
  refine lv_iload_n hx hb dX9_slotsInUse_9 rfl (lv_at hl 1 rfl) ?_
  refine lv_aload_n hx hb dX9_slotsInUse_10 rfl (lv_at hl 2 rfl) ?_
  refine va_get (D := D) (ci := 9) (v := .ref (xa 8)) (C := RX9) (T := TX9) (N := 14) hx hb hts lay_X9 hown hK.1 hP 0 rfl rfl 7 (by decide) (hts _ fl_X9_54) (fun _ h9 => h9) rfl dX9_slotsInUse_11 ?_
  refine lv_iload_n hx hb dX9_slotsInUse_14 rfl (lv_at hl 0 rfl) ?_
  refine va_aldq (C := RX6) hx hb hK.1 hP 1 4 rfl rfl (i := 0) (vp_in_iff.mpr (by decide)) dX9_slotsInUse_15 ?_
  refine W.eq (g2 := F0 m 16 ls [.null, .int 0]) rfl ?_
  refine lv_ifnonnullN hx hb dX9_slotsInUse_16 ?_
  refine lv_iconst (v := 0) hx hb dX9_slotsInUse_19 (by decide) ?_
  refine lv_goto (tgt := 24) hx hb dX9_slotsInUse_20 (by decide) ?_
  refine lv_iadd hx hb dX9_slotsInUse_24 ?_
  refine lv_topi (fun z_2 ez_2 => ?_)
  have ez_2 : z_2 = 0 := ez_2.trans (by decide)
  subst ez_2
  refine lv_istore_n (lv' := [(1, .int 0), (2, .int 0), (0, .ref (xa 0))]) hx hb dX9_slotsInUse_25 rfl hl (by decide) rfl (fun ls hl => ?_)
  refine lv_iinc (v := 1) (lv' := [(2, .int 1), (1, .int 0), (0, .ref (xa 0))]) hx hb dX9_slotsInUse_26 hl (k := 1) rfl (by decide) (by decide) rfl (fun ls hl => ?_)
  refine lv_goto (tgt := 4) hx hb dX9_slotsInUse_29 (by decide) ?_
  refine lv_iload_n hx hb dX9_slotsInUse_4 rfl (lv_at hl 0 rfl) ?_
  refine lv_iconst (v := 4) hx hb dX9_slotsInUse_5 (by decide) ?_
  refine lv_icmp_ge (tgt := 32) hx hb dX9_slotsInUse_6 (by decide) (fun c_4 => absurd c_4 (by decide)) (fun _ => ?_)
  refine lv_iload_n hx hb dX9_slotsInUse_9 rfl (lv_at hl 1 rfl) ?_
  refine lv_aload_n hx hb dX9_slotsInUse_10 rfl (lv_at hl 2 rfl) ?_
  refine va_get (D := D) (ci := 9) (v := .ref (xa 8)) (C := RX9) (T := TX9) (N := 14) hx hb hts lay_X9 hown hK.1 hP 0 rfl rfl 7 (by decide) (hts _ fl_X9_54) (fun _ h9 => h9) rfl dX9_slotsInUse_11 ?_
  refine lv_iload_n hx hb dX9_slotsInUse_14 rfl (lv_at hl 0 rfl) ?_
  refine va_aldq (C := RX6) hx hb hK.1 hP 1 4 rfl rfl (i := 1) (vp_in_iff.mpr (by decide)) dX9_slotsInUse_15 ?_
  refine W.eq (g2 := F0 m 16 ls [.null, .int 0]) rfl ?_
  refine lv_ifnonnullN hx hb dX9_slotsInUse_16 ?_
  refine lv_iconst (v := 0) hx hb dX9_slotsInUse_19 (by decide) ?_
  refine lv_goto (tgt := 24) hx hb dX9_slotsInUse_20 (by decide) ?_
  refine lv_iadd hx hb dX9_slotsInUse_24 ?_
  refine lv_topi (fun z_5 ez_5 => ?_)
  have ez_5 : z_5 = 0 := ez_5.trans (by decide)
  subst ez_5
  refine lv_istore_n (lv' := [(1, .int 0), (2, .int 1), (0, .ref (xa 0))]) hx hb dX9_slotsInUse_25 rfl hl (by decide) rfl (fun ls hl => ?_)
  refine lv_iinc (v := 2) (lv' := [(2, .int 2), (1, .int 0), (0, .ref (xa 0))]) hx hb dX9_slotsInUse_26 hl (k := 1) rfl (by decide) (by decide) rfl (fun ls hl => ?_)
  refine lv_goto (tgt := 4) hx hb dX9_slotsInUse_29 (by decide) ?_
  refine lv_iload_n hx hb dX9_slotsInUse_4 rfl (lv_at hl 0 rfl) ?_
  refine lv_iconst (v := 4) hx hb dX9_slotsInUse_5 (by decide) ?_
  refine lv_icmp_ge (tgt := 32) hx hb dX9_slotsInUse_6 (by decide) (fun c_7 => absurd c_7 (by decide)) (fun _ => ?_)
  refine lv_iload_n hx hb dX9_slotsInUse_9 rfl (lv_at hl 1 rfl) ?_
  refine lv_aload_n hx hb dX9_slotsInUse_10 rfl (lv_at hl 2 rfl) ?_
  refine va_get (D := D) (ci := 9) (v := .ref (xa 8)) (C := RX9) (T := TX9) (N := 14) hx hb hts lay_X9 hown hK.1 hP 0 rfl rfl 7 (by decide) (hts _ fl_X9_54) (fun _ h9 => h9) rfl dX9_slotsInUse_11 ?_
  refine lv_iload_n hx hb dX9_slotsInUse_14 rfl (lv_at hl 0 rfl) ?_
  refine va_aldq (C := RX6) hx hb hK.1 hP 1 4 rfl rfl (i := 2) (vp_in_iff.mpr (by decide)) dX9_slotsInUse_15 ?_
  refine W.eq (g2 := F0 m 16 ls [.null, .int 0]) rfl ?_
  refine lv_ifnonnullN hx hb dX9_slotsInUse_16 ?_
  refine lv_iconst (v := 0) hx hb dX9_slotsInUse_19 (by decide) ?_
  refine lv_goto (tgt := 24) hx hb dX9_slotsInUse_20 (by decide) ?_
  refine lv_iadd hx hb dX9_slotsInUse_24 ?_
  refine lv_topi (fun z_8 ez_8 => ?_)
  have ez_8 : z_8 = 0 := ez_8.trans (by decide)
  subst ez_8
  refine lv_istore_n (lv' := [(1, .int 0), (2, .int 2), (0, .ref (xa 0))]) hx hb dX9_slotsInUse_25 rfl hl (by decide) rfl (fun ls hl => ?_)
  refine lv_iinc (v := 3) (lv' := [(2, .int 3), (1, .int 0), (0, .ref (xa 0))]) hx hb dX9_slotsInUse_26 hl (k := 1) rfl (by decide) (by decide) rfl (fun ls hl => ?_)
  refine lv_goto (tgt := 4) hx hb dX9_slotsInUse_29 (by decide) ?_
  refine lv_iload_n hx hb dX9_slotsInUse_4 rfl (lv_at hl 0 rfl) ?_
  refine lv_iconst (v := 4) hx hb dX9_slotsInUse_5 (by decide) ?_
  refine lv_icmp_ge (tgt := 32) hx hb dX9_slotsInUse_6 (by decide) (fun c_10 => absurd c_10 (by decide)) (fun _ => ?_)
  refine lv_iload_n hx hb dX9_slotsInUse_9 rfl (lv_at hl 1 rfl) ?_
  refine lv_aload_n hx hb dX9_slotsInUse_10 rfl (lv_at hl 2 rfl) ?_
  refine va_get (D := D) (ci := 9) (v := .ref (xa 8)) (C := RX9) (T := TX9) (N := 14) hx hb hts lay_X9 hown hK.1 hP 0 rfl rfl 7 (by decide) (hts _ fl_X9_54) (fun _ h9 => h9) rfl dX9_slotsInUse_11 ?_
  refine lv_iload_n hx hb dX9_slotsInUse_14 rfl (lv_at hl 0 rfl) ?_
  refine va_aldq (C := RX6) hx hb hK.1 hP 1 4 rfl rfl (i := 3) (vp_in_iff.mpr (by decide)) dX9_slotsInUse_15 ?_
  refine W.eq (g2 := F0 m 16 ls [.null, .int 0]) rfl ?_
  refine lv_ifnonnullN hx hb dX9_slotsInUse_16 ?_
  refine lv_iconst (v := 0) hx hb dX9_slotsInUse_19 (by decide) ?_
  refine lv_goto (tgt := 24) hx hb dX9_slotsInUse_20 (by decide) ?_
  refine lv_iadd hx hb dX9_slotsInUse_24 ?_
  refine lv_topi (fun z_11 ez_11 => ?_)
  have ez_11 : z_11 = 0 := ez_11.trans (by decide)
  subst ez_11
  refine lv_istore_n (lv' := [(1, .int 0), (2, .int 3), (0, .ref (xa 0))]) hx hb dX9_slotsInUse_25 rfl hl (by decide) rfl (fun ls hl => ?_)
  refine lv_iinc (v := 4) (lv' := [(2, .int 4), (1, .int 0), (0, .ref (xa 0))]) hx hb dX9_slotsInUse_26 hl (k := 1) rfl (by decide) (by decide) rfl (fun ls hl => ?_)
  refine lv_goto (tgt := 4) hx hb dX9_slotsInUse_29 (by decide) ?_
  refine lv_iload_n hx hb dX9_slotsInUse_4 rfl (lv_at hl 0 rfl) ?_
  refine lv_iconst (v := 4) hx hb dX9_slotsInUse_5 (by decide) ?_
  refine lv_icmp_ge (tgt := 32) hx hb dX9_slotsInUse_6 (by decide) (fun _ => ?_) (fun c_13 => absurd (by decide) c_13)
  refine lv_iload_n hx hb dX9_slotsInUse_32 rfl (lv_at hl 1 rfl) ?_
  exact ret_i hx hb hr hlocks ⟨rfl, _, rfl, rfl⟩ (fun _ h => absurd h List.not_mem_nil) (Nat.le_refl _) (Nat.le_refl _) dX9_slotsInUse_33
set_option maxHeartbeats 4000000 in
set_option maxRecDepth 100000 in
theorem f_X9_count (l : Launch) (D : va_G) (cy : Nat → ClassId) (xa : Nat → Nat) (n0 : Int32) : MM l yX9_count cX9_count 2 (some .int) 1 0 0 D cy [.ref (xa 0), .int n0] (fun H => va_P D vwCl [((xa 0), .inr (9, [.ref (xa 1), .ref (xa 2), .ref (xa 3), .ref (xa 4), .ref (xa 5), .ref (xa 6), .ref (xa 7), .ref (xa 8), .ref (xa 9), .int 0, .ref (xa 11), .null, .int 0, .int (-1)])), ((xa 11), .inr (2, [.int 0, .int 0, .int 0, .int 0, .int 0, .int 0, .int 0, .int 0, .int 1, .int 10, .int 0, .int 0, .int 0, .int 0, .ref (xa 20), .ref (xa 21), .ref (xa 22), .ref (xa 23), .ref (xa 24), .ref (xa 25), .ref (xa 26)])), ((xa 8), .inl (cy 4, 4, .inr (.inr (.inr (.inr (fun _ => none))))))] H) (PuI (fun r => (r = 0 ∧ 0 ≤ n0.toInt ∧ n0.toInt ≤ 7) ∨ (r = (-1) ∧ (n0.toInt < 0 ∨ 7 < n0.toInt)))) noF := by
  refine MM.of (by decide) (Nat.le_of_ble_eq_true rfl) ?_
  intro p e s m below meth c C hP ls hl
  obtain ⟨hx, hb, hr, hml, hown, hts, hlocks, hK, hnm⟩ := C
  have hP : va_P D vwCl [((xa 0), .inr (9, [.ref (xa 1), .ref (xa 2), .ref (xa 3), .ref (xa 4), .ref (xa 5), .ref (xa 6), .ref (xa 7), .ref (xa 8), .ref (xa 9), .int 0, .ref (xa 11), .null, .int 0, .int (-1)])), ((xa 11), .inr (2, [.int 0, .int 0, .int 0, .int 0, .int 0, .int 0, .int 0, .int 0, .int 1, .int 10, .int 0, .int 0, .int 0, .int 0, .ref (xa 20), .ref (xa 21), .ref (xa 22), .ref (xa 23), .ref (xa 24), .ref (xa 25), .ref (xa 26)])), ((xa 8), .inl (cy 4, 4, .inr (.inr (.inr (.inr (fun _ => none))))))] s.heap := hP
  have hl : lv_has ls 2 [(0, .ref (xa 0)), (1, .int n0)] := hl
  refine lv_iload_n hx hb dX9_count_0 rfl (lv_at hl 1 rfl) ?_
  by_cases sw_1 : n0.toInt < 0 ∨ 7 < n0.toInt
  · skip
    refine lv_tableOut (tgt := 111) hx hb dX9_count_1 sw_1 (by decide) ?_
    refine lv_iconst (v := (-1)) hx hb dX9_count_111 (by decide) ?_
    exact ret_i hx hb hr hlocks ⟨rfl, _, rfl, (Or.inr ⟨rfl, (by omega)⟩)⟩ (fun _ h => absurd h List.not_mem_nil) (Nat.le_refl _) (Nat.le_refl _) dX9_count_112
  · skip
    rcases (show n0.toInt = 0 ∨ n0.toInt = 1 ∨ n0.toInt = 2 ∨ n0.toInt = 3 ∨ n0.toInt = 4 ∨ n0.toInt = 5 ∨ n0.toInt = 6 ∨ n0.toInt = 7 by omega) with sw_1_0 | sw_1_1 | sw_1_2 | sw_1_3 | sw_1_4 | sw_1_5 | sw_1_6 | sw_1_7
    · skip
      refine lv_tableIn (tgt := 48) hx hb dX9_count_1 (by omega) (by omega) (by rw [sw_1_0]; rfl) (by decide) ?_
      refine lv_aload_n hx hb dX9_count_48 rfl (lv_at hl 0 rfl) ?_
      refine va_get (D := D) (ci := 9) (v := .ref (xa 11)) (C := RX9) (T := TX9) (N := 14) hx hb hts lay_X9 hown hK.1 hP 0 rfl rfl 10 (by decide) (hts _ fl_X9_67) (fun _ h9 => h9) rfl dX9_count_49 ?_
      refine va_get (D := D) (ci := 2) (v := .int 0) (C := RX2) (T := TX2) (N := 21) hx hb hts lay_X2 hown hK.1 hP 1 rfl rfl 6 (by decide) (hts _ fl_X9_137) (fun _ h9 => h9) rfl dX9_count_52 ?_
      exact ret_i hx hb hr hlocks ⟨rfl, _, rfl, (Or.inl ⟨rfl, (by omega), (by omega)⟩)⟩ (fun _ h => absurd h List.not_mem_nil) (Nat.le_refl _) (Nat.le_refl _) dX9_count_55
    · skip
      refine lv_tableIn (tgt := 56) hx hb dX9_count_1 (by omega) (by omega) (by rw [sw_1_1]; rfl) (by decide) ?_
      refine lv_aload_n hx hb dX9_count_56 rfl (lv_at hl 0 rfl) ?_
      refine va_get (D := D) (ci := 9) (v := .ref (xa 11)) (C := RX9) (T := TX9) (N := 14) hx hb hts lay_X9 hown hK.1 hP 0 rfl rfl 10 (by decide) (hts _ fl_X9_67) (fun _ h9 => h9) rfl dX9_count_57 ?_
      refine va_get (D := D) (ci := 2) (v := .int 0) (C := RX2) (T := TX2) (N := 21) hx hb hts lay_X2 hown hK.1 hP 1 rfl rfl 5 (by decide) (hts _ fl_X9_202) (fun _ h9 => h9) rfl dX9_count_60 ?_
      exact ret_i hx hb hr hlocks ⟨rfl, _, rfl, (Or.inl ⟨rfl, (by omega), (by omega)⟩)⟩ (fun _ h => absurd h List.not_mem_nil) (Nat.le_refl _) (Nat.le_refl _) dX9_count_63
    · skip
      refine lv_tableIn (tgt := 64) hx hb dX9_count_1 (by omega) (by omega) (by rw [sw_1_2]; rfl) (by decide) ?_
      refine lv_aload_n hx hb dX9_count_64 rfl (lv_at hl 0 rfl) ?_
      refine va_get (D := D) (ci := 9) (v := .ref (xa 11)) (C := RX9) (T := TX9) (N := 14) hx hb hts lay_X9 hown hK.1 hP 0 rfl rfl 10 (by decide) (hts _ fl_X9_67) (fun _ h9 => h9) rfl dX9_count_65 ?_
      refine va_get (D := D) (ci := 2) (v := .int 0) (C := RX2) (T := TX2) (N := 21) hx hb hts lay_X2 hown hK.1 hP 1 rfl rfl 1 (by decide) (hts _ fl_X9_155) (fun _ h9 => h9) rfl dX9_count_68 ?_
      exact ret_i hx hb hr hlocks ⟨rfl, _, rfl, (Or.inl ⟨rfl, (by omega), (by omega)⟩)⟩ (fun _ h => absurd h List.not_mem_nil) (Nat.le_refl _) (Nat.le_refl _) dX9_count_71
    · skip
      refine lv_tableIn (tgt := 72) hx hb dX9_count_1 (by omega) (by omega) (by rw [sw_1_3]; rfl) (by decide) ?_
      refine lv_aload_n hx hb dX9_count_72 rfl (lv_at hl 0 rfl) ?_
      refine va_get (D := D) (ci := 9) (v := .ref (xa 11)) (C := RX9) (T := TX9) (N := 14) hx hb hts lay_X9 hown hK.1 hP 0 rfl rfl 10 (by decide) (hts _ fl_X9_67) (fun _ h9 => h9) rfl dX9_count_73 ?_
      refine va_get (D := D) (ci := 2) (v := .int 0) (C := RX2) (T := TX2) (N := 21) hx hb hts lay_X2 hown hK.1 hP 1 rfl rfl 0 (by decide) (hts _ fl_X9_96) (fun _ h9 => h9) rfl dX9_count_76 ?_
      exact ret_i hx hb hr hlocks ⟨rfl, _, rfl, (Or.inl ⟨rfl, (by omega), (by omega)⟩)⟩ (fun _ h => absurd h List.not_mem_nil) (Nat.le_refl _) (Nat.le_refl _) dX9_count_79
    · skip
      refine lv_tableIn (tgt := 80) hx hb dX9_count_1 (by omega) (by omega) (by rw [sw_1_4]; rfl) (by decide) ?_
      refine lv_aload_n hx hb dX9_count_80 rfl (lv_at hl 0 rfl) ?_
      refine va_get (D := D) (ci := 9) (v := .ref (xa 11)) (C := RX9) (T := TX9) (N := 14) hx hb hts lay_X9 hown hK.1 hP 0 rfl rfl 10 (by decide) (hts _ fl_X9_67) (fun _ h9 => h9) rfl dX9_count_81 ?_
      refine va_get (D := D) (ci := 2) (v := .int 0) (C := RX2) (T := TX2) (N := 21) hx hb hts lay_X2 hown hK.1 hP 1 rfl rfl 7 (by decide) (hts _ fl_X9_352) (fun _ h9 => h9) rfl dX9_count_84 ?_
      exact ret_i hx hb hr hlocks ⟨rfl, _, rfl, (Or.inl ⟨rfl, (by omega), (by omega)⟩)⟩ (fun _ h => absurd h List.not_mem_nil) (Nat.le_refl _) (Nat.le_refl _) dX9_count_87
    · skip
      refine lv_tableIn (tgt := 88) hx hb dX9_count_1 (by omega) (by omega) (by rw [sw_1_5]; rfl) (by decide) ?_
      refine lv_aload_n hx hb dX9_count_88 rfl (lv_at hl 0 rfl) ?_
      refine va_get (D := D) (ci := 9) (v := .int 0) (C := RX9) (T := TX9) (N := 14) hx hb hts lay_X9 hown hK.1 hP 0 rfl rfl 9 (by decide) (hts _ fl_X9_75) (fun _ h9 => h9) rfl dX9_count_89 ?_
      exact ret_i hx hb hr hlocks ⟨rfl, _, rfl, (Or.inl ⟨rfl, (by omega), (by omega)⟩)⟩ (fun _ h => absurd h List.not_mem_nil) (Nat.le_refl _) (Nat.le_refl _) dX9_count_92
    · skip
      refine lv_tableIn (tgt := 93) hx hb dX9_count_1 (by omega) (by omega) (by rw [sw_1_6]; rfl) (by decide) ?_
      refine lv_aload_n hx hb dX9_count_93 rfl (lv_at hl 0 rfl) ?_
      refine va_get (D := D) (ci := 9) (v := .null) (C := RX9) (T := TX9) (N := 14) hx hb hts lay_X9 hown hK.1 hP 0 rfl rfl 11 (by decide) (hts _ fl_X9_93) (fun _ h9 => h9) rfl dX9_count_94 ?_
      refine lv_ifnonnullN hx hb dX9_count_97 ?_
      refine lv_iconst (v := 0) hx hb dX9_count_100 (by decide) ?_
      refine lv_goto (tgt := 105) hx hb dX9_count_101 (by decide) ?_
      exact ret_i hx hb hr hlocks ⟨rfl, _, rfl, (Or.inl ⟨rfl, (by omega), (by omega)⟩)⟩ (fun _ h => absurd h List.not_mem_nil) (Nat.le_refl _) (Nat.le_refl _) dX9_count_105
    · skip
      refine lv_tableIn (tgt := 106) hx hb dX9_count_1 (by omega) (by omega) (by rw [sw_1_7]; rfl) (by decide) ?_
      refine lv_aload_n hx hb dX9_count_106 rfl (lv_at hl 0 rfl) ?_
      refine pu_calli (runV (As := []) (rest := []) ⟨hx, hb, hml, hown, hts⟩ (f_slotsInUse l D cy xa ) sV_X9_355 hK (va_recv hK.1 hP (ci := 9) (q0 := 0) rfl rfl) (hP.sub (ws' := [((xa 0), .inr (9, [.ref (xa 1), .ref (xa 2), .ref (xa 3), .ref (xa 4), .ref (xa 5), .ref (xa 6), .ref (xa 7), .ref (xa 8), .ref (xa 9), .int 0, .ref (xa 11), .null, .int 0, .int (-1)])), ((xa 8), .inl (cy 4, 4, .inr (.inr (.inr (.inr (fun _ => none))))))]) [0, 2] rfl) ⟨Nat.le_of_ble_eq_true rfl, Nat.le_of_ble_eq_true rfl⟩ rfl hl.1 rfl (Nat.le_of_ble_eq_true rfl) dX9_count_107 ⟨Nat.le_of_ble_eq_true rfl, Nat.le_of_ble_eq_true rfl⟩) (fun r_2 hr_2 => ?_)
      have er_2 := hr_2
      subst er_2
      refine W.eq (g2 := F0 m 110 ls [.int 0]) rfl ?_
      exact ret_i hx hb hr hlocks ⟨rfl, _, rfl, (Or.inl ⟨rfl, (by omega), (by omega)⟩)⟩ (fun _ h => absurd h List.not_mem_nil) (Nat.le_refl _) (Nat.le_refl _) dX9_count_110
set_option maxHeartbeats 4000000 in
set_option maxRecDepth 100000 in
theorem g_X10_count (l : Launch) (D : va_G) (cy : Nat → ClassId) (ma : Nat → Nat) (fw : Nat → Int32) (n0 : Int32) (hw : ∀ k : Nat, k < 4 → fw k = -1) (sz : Nat) : MM l yX10_count cX10_count 4 (some .int) 1 0 0 D cy [.ref (ma 0), .int n0] (PW D [((ma 0), .inr (10, [.int 0, .ref (ma 1), .ref (ma 2), .ref (ma 3), .ref (ma 4), .ref (ma 5), .int 0, .int 0, .int 0, .int 0, .int 0, .long 0, .int 0, .int 0, .int 0, .int (-1), .ref (ma 16), .ref (ma 17), .ref (ma 18), .ref (ma 19), .ref (ma 20), .ref (ma 21), .ref (ma 22), .ref (ma 23), .ref (ma 24), .ref (ma 25), .ref (ma 26), .ref (ma 27), .ref (ma 28), .ref (ma 29), .ref (ma 30), .ref (ma 31), .ref (ma 32), .ref (ma 33), .ref (ma 34), .ref (ma 35), .ref (ma 36), .ref (ma 37), .ref (ma 38), .ref (ma 39), .ref (ma 40), .ref (ma 41), .long 0])), ((ma 17), .inl (cy 1, 20, .inl (fun _ => 0))), ((ma 20), .inl (cy 1, 5, .inl (fun _ => 0))), ((ma 18), .inl (cy 1, 5, .inl (fun _ => 0))), ((ma 16), .inl (cy 1, 5, .inl (fun _ => 0))), ((ma 22), .inl (cy 1, 5, .inl (fun _ => 0))), ((ma 26), .inl (cy 1, 5, .inl (fun _ => 0))), ((ma 1), .inl (cy 1, 4, .inl fw))] sz) (QW D (va_A [((ma 0), .inr (10, [.int 0, .ref (ma 1), .ref (ma 2), .ref (ma 3), .ref (ma 4), .ref (ma 5), .int 0, .int 0, .int 0, .int 0, .int 0, .long 0, .int 0, .int 0, .int 0, .int (-1), .ref (ma 16), .ref (ma 17), .ref (ma 18), .ref (ma 19), .ref (ma 20), .ref (ma 21), .ref (ma 22), .ref (ma 23), .ref (ma 24), .ref (ma 25), .ref (ma 26), .ref (ma 27), .ref (ma 28), .ref (ma 29), .ref (ma 30), .ref (ma 31), .ref (ma 32), .ref (ma 33), .ref (ma 34), .ref (ma 35), .ref (ma 36), .ref (ma 37), .ref (ma 38), .ref (ma 39), .ref (ma 40), .ref (ma 41), .long 0])), ((ma 17), .inl (cy 1, 20, .inl (fun _ => 0))), ((ma 20), .inl (cy 1, 5, .inl (fun _ => 0))), ((ma 18), .inl (cy 1, 5, .inl (fun _ => 0))), ((ma 16), .inl (cy 1, 5, .inl (fun _ => 0))), ((ma 22), .inl (cy 1, 5, .inl (fun _ => 0))), ((ma 26), .inl (cy 1, 5, .inl (fun _ => 0))), ((ma 1), .inl (cy 1, 4, .inl fw))] sz) (S := Unit) (fun v u => (∃ r : Int32, v = some (.int r) ∧ ((r = 0 ∧ 0 ≤ n0.toInt ∧ n0.toInt ≤ 7) ∨ (r = (-1) ∧ (n0.toInt < 0 ∨ 7 < n0.toInt))))) (fun u => [])) (va_A [((ma 0), .inr (10, [.int 0, .ref (ma 1), .ref (ma 2), .ref (ma 3), .ref (ma 4), .ref (ma 5), .int 0, .int 0, .int 0, .int 0, .int 0, .long 0, .int 0, .int 0, .int 0, .int (-1), .ref (ma 16), .ref (ma 17), .ref (ma 18), .ref (ma 19), .ref (ma 20), .ref (ma 21), .ref (ma 22), .ref (ma 23), .ref (ma 24), .ref (ma 25), .ref (ma 26), .ref (ma 27), .ref (ma 28), .ref (ma 29), .ref (ma 30), .ref (ma 31), .ref (ma 32), .ref (ma 33), .ref (ma 34), .ref (ma 35), .ref (ma 36), .ref (ma 37), .ref (ma 38), .ref (ma 39), .ref (ma 40), .ref (ma 41), .long 0])), ((ma 17), .inl (cy 1, 20, .inl (fun _ => 0))), ((ma 20), .inl (cy 1, 5, .inl (fun _ => 0))), ((ma 18), .inl (cy 1, 5, .inl (fun _ => 0))), ((ma 16), .inl (cy 1, 5, .inl (fun _ => 0))), ((ma 22), .inl (cy 1, 5, .inl (fun _ => 0))), ((ma 26), .inl (cy 1, 5, .inl (fun _ => 0))), ((ma 1), .inl (cy 1, 4, .inl fw))] sz) := by
  refine MM.of (by decide) (Nat.le_of_ble_eq_true rfl) ?_
  intro p e s m below meth c C hPW ls hl
  obtain ⟨hx, hb, hr, hml, hown, hts, hlocks, hK, hnm⟩ := C
  obtain ⟨rfl, hP, hD0⟩ := hPW
  have hD := hD0.self (sz := s.heap.size)
  have hA : ∀ q : Nat, s.heap.size ≤ q → (va_A [((ma 0), .inr (10, [.int 0, .ref (ma 1), .ref (ma 2), .ref (ma 3), .ref (ma 4), .ref (ma 5), .int 0, .int 0, .int 0, .int 0, .int 0, .long 0, .int 0, .int 0, .int 0, .int (-1), .ref (ma 16), .ref (ma 17), .ref (ma 18), .ref (ma 19), .ref (ma 20), .ref (ma 21), .ref (ma 22), .ref (ma 23), .ref (ma 24), .ref (ma 25), .ref (ma 26), .ref (ma 27), .ref (ma 28), .ref (ma 29), .ref (ma 30), .ref (ma 31), .ref (ma 32), .ref (ma 33), .ref (ma 34), .ref (ma 35), .ref (ma 36), .ref (ma 37), .ref (ma 38), .ref (ma 39), .ref (ma 40), .ref (ma 41), .long 0])), ((ma 17), .inl (cy 1, 20, .inl (fun _ => 0))), ((ma 20), .inl (cy 1, 5, .inl (fun _ => 0))), ((ma 18), .inl (cy 1, 5, .inl (fun _ => 0))), ((ma 16), .inl (cy 1, 5, .inl (fun _ => 0))), ((ma 22), .inl (cy 1, 5, .inl (fun _ => 0))), ((ma 26), .inl (cy 1, 5, .inl (fun _ => 0))), ((ma 1), .inl (cy 1, 4, .inl fw))] s.heap.size) q := fun q h => Or.inr h
  have hS : va_S (va_A [((ma 0), .inr (10, [.int 0, .ref (ma 1), .ref (ma 2), .ref (ma 3), .ref (ma 4), .ref (ma 5), .int 0, .int 0, .int 0, .int 0, .int 0, .long 0, .int 0, .int 0, .int 0, .int (-1), .ref (ma 16), .ref (ma 17), .ref (ma 18), .ref (ma 19), .ref (ma 20), .ref (ma 21), .ref (ma 22), .ref (ma 23), .ref (ma 24), .ref (ma 25), .ref (ma 26), .ref (ma 27), .ref (ma 28), .ref (ma 29), .ref (ma 30), .ref (ma 31), .ref (ma 32), .ref (ma 33), .ref (ma 34), .ref (ma 35), .ref (ma 36), .ref (ma 37), .ref (ma 38), .ref (ma 39), .ref (ma 40), .ref (ma 41), .long 0])), ((ma 17), .inl (cy 1, 20, .inl (fun _ => 0))), ((ma 20), .inl (cy 1, 5, .inl (fun _ => 0))), ((ma 18), .inl (cy 1, 5, .inl (fun _ => 0))), ((ma 16), .inl (cy 1, 5, .inl (fun _ => 0))), ((ma 22), .inl (cy 1, 5, .inl (fun _ => 0))), ((ma 26), .inl (cy 1, 5, .inl (fun _ => 0))), ((ma 1), .inl (cy 1, 4, .inl fw))] s.heap.size) s.heap s.heap [] := va_S.rf
  generalize va_A [((ma 0), .inr (10, [.int 0, .ref (ma 1), .ref (ma 2), .ref (ma 3), .ref (ma 4), .ref (ma 5), .int 0, .int 0, .int 0, .int 0, .int 0, .long 0, .int 0, .int 0, .int 0, .int (-1), .ref (ma 16), .ref (ma 17), .ref (ma 18), .ref (ma 19), .ref (ma 20), .ref (ma 21), .ref (ma 22), .ref (ma 23), .ref (ma 24), .ref (ma 25), .ref (ma 26), .ref (ma 27), .ref (ma 28), .ref (ma 29), .ref (ma 30), .ref (ma 31), .ref (ma 32), .ref (ma 33), .ref (ma 34), .ref (ma 35), .ref (ma 36), .ref (ma 37), .ref (ma 38), .ref (ma 39), .ref (ma 40), .ref (ma 41), .long 0])), ((ma 17), .inl (cy 1, 20, .inl (fun _ => 0))), ((ma 20), .inl (cy 1, 5, .inl (fun _ => 0))), ((ma 18), .inl (cy 1, 5, .inl (fun _ => 0))), ((ma 16), .inl (cy 1, 5, .inl (fun _ => 0))), ((ma 22), .inl (cy 1, 5, .inl (fun _ => 0))), ((ma 26), .inl (cy 1, 5, .inl (fun _ => 0))), ((ma 1), .inl (cy 1, 4, .inl fw))] s.heap.size = A at hD hA hS ⊢
  have hP : va_P D vwCl [((ma 0), .inr (10, [.int 0, .ref (ma 1), .ref (ma 2), .ref (ma 3), .ref (ma 4), .ref (ma 5), .int 0, .int 0, .int 0, .int 0, .int 0, .long 0, .int 0, .int 0, .int 0, .int (-1), .ref (ma 16), .ref (ma 17), .ref (ma 18), .ref (ma 19), .ref (ma 20), .ref (ma 21), .ref (ma 22), .ref (ma 23), .ref (ma 24), .ref (ma 25), .ref (ma 26), .ref (ma 27), .ref (ma 28), .ref (ma 29), .ref (ma 30), .ref (ma 31), .ref (ma 32), .ref (ma 33), .ref (ma 34), .ref (ma 35), .ref (ma 36), .ref (ma 37), .ref (ma 38), .ref (ma 39), .ref (ma 40), .ref (ma 41), .long 0])), ((ma 17), .inl (cy 1, 20, .inl (fun _ => 0))), ((ma 20), .inl (cy 1, 5, .inl (fun _ => 0))), ((ma 18), .inl (cy 1, 5, .inl (fun _ => 0))), ((ma 16), .inl (cy 1, 5, .inl (fun _ => 0))), ((ma 22), .inl (cy 1, 5, .inl (fun _ => 0))), ((ma 26), .inl (cy 1, 5, .inl (fun _ => 0))), ((ma 1), .inl (cy 1, 4, .inl fw))] s.heap := hP
  have hl : lv_has ls 4 [(0, .ref (ma 0)), (1, .int n0)] := hl
  refine lv_aload_n hx hb dX10_count_0 rfl (lv_at hl 0 rfl) ?_
  refine lv_iconst (v := 0) hx hb dX10_count_1 (by decide) ?_
  refine va_put (D := D) (ci := 10) (v := .int 0) (ty := tyX10 0) (C := RX10) (T := TX10) (N := 43) hx hb hts lay_X10 tyX10 tyX10_ok nmX10 hown hK.1 hP hD hS 0 rfl rfl 0 (by decide) (hts _ fl_X10_111) (fun _ h9 => h9) rfl (tyX10_ok 0 (by decide)) rfl rfl (Nat.le_of_ble_eq_true rfl) dX10_count_2 (fun H locs hP hD hS => ?_)
  have hP : va_P D vwCl [((ma 0), .inr (10, [.int 0, .ref (ma 1), .ref (ma 2), .ref (ma 3), .ref (ma 4), .ref (ma 5), .int 0, .int 0, .int 0, .int 0, .int 0, .long 0, .int 0, .int 0, .int 0, .int (-1), .ref (ma 16), .ref (ma 17), .ref (ma 18), .ref (ma 19), .ref (ma 20), .ref (ma 21), .ref (ma 22), .ref (ma 23), .ref (ma 24), .ref (ma 25), .ref (ma 26), .ref (ma 27), .ref (ma 28), .ref (ma 29), .ref (ma 30), .ref (ma 31), .ref (ma 32), .ref (ma 33), .ref (ma 34), .ref (ma 35), .ref (ma 36), .ref (ma 37), .ref (ma 38), .ref (ma 39), .ref (ma 40), .ref (ma 41), .long 0])), ((ma 17), .inl (cy 1, 20, .inl (fun _ => 0))), ((ma 20), .inl (cy 1, 5, .inl (fun _ => 0))), ((ma 18), .inl (cy 1, 5, .inl (fun _ => 0))), ((ma 16), .inl (cy 1, 5, .inl (fun _ => 0))), ((ma 22), .inl (cy 1, 5, .inl (fun _ => 0))), ((ma 26), .inl (cy 1, 5, .inl (fun _ => 0))), ((ma 1), .inl (cy 1, 4, .inl fw))] H := hP
  have hD : va_D A [((ma 0), .inr (10, [.int 0, .ref (ma 1), .ref (ma 2), .ref (ma 3), .ref (ma 4), .ref (ma 5), .int 0, .int 0, .int 0, .int 0, .int 0, .long 0, .int 0, .int 0, .int 0, .int (-1), .ref (ma 16), .ref (ma 17), .ref (ma 18), .ref (ma 19), .ref (ma 20), .ref (ma 21), .ref (ma 22), .ref (ma 23), .ref (ma 24), .ref (ma 25), .ref (ma 26), .ref (ma 27), .ref (ma 28), .ref (ma 29), .ref (ma 30), .ref (ma 31), .ref (ma 32), .ref (ma 33), .ref (ma 34), .ref (ma 35), .ref (ma 36), .ref (ma 37), .ref (ma 38), .ref (ma 39), .ref (ma 40), .ref (ma 41), .long 0])), ((ma 17), .inl (cy 1, 20, .inl (fun _ => 0))), ((ma 20), .inl (cy 1, 5, .inl (fun _ => 0))), ((ma 18), .inl (cy 1, 5, .inl (fun _ => 0))), ((ma 16), .inl (cy 1, 5, .inl (fun _ => 0))), ((ma 22), .inl (cy 1, 5, .inl (fun _ => 0))), ((ma 26), .inl (cy 1, 5, .inl (fun _ => 0))), ((ma 1), .inl (cy 1, 4, .inl fw))] := hD
  refine lv_iconst (v := 0) hx hb dX10_count_5 (by decide) ?_
  refine lv_istore_n (lv' := [(2, .int 0), (0, .ref (ma 0)), (1, .int n0)]) hx hb dX10_count_6 rfl hl (by decide) rfl (fun ls hl => ?_)
  refine lv_iload_n hx hb dX10_count_7 rfl (lv_at hl 2 rfl) ?_
  by_cases sw_1 : n0.toInt < 0 ∨ 7 < n0.toInt
  · skip
    refine lv_tableOut (tgt := 134) hx hb dX10_count_8 sw_1 (by decide) ?_
    refine lv_iconst (v := (-1)) hx hb dX10_count_134 (by decide) ?_
    exact ret_i hx hb hr hlocks ⟨⟨hS.1, hS.2.1⟩, (), ⟨_, rfl, (Or.inr ⟨rfl, (by omega)⟩)⟩, hP.sub [] rfl, hD.sub [] (by decide) rfl⟩ hS.2.2 (Nat.le_of_ble_eq_true rfl) (Nat.le_of_ble_eq_true rfl) dX10_count_135
  · skip
    rcases (show n0.toInt = 0 ∨ n0.toInt = 1 ∨ n0.toInt = 2 ∨ n0.toInt = 3 ∨ n0.toInt = 4 ∨ n0.toInt = 5 ∨ n0.toInt = 6 ∨ n0.toInt = 7 by omega) with sw_1_0 | sw_1_1 | sw_1_2 | sw_1_3 | sw_1_4 | sw_1_5 | sw_1_6 | sw_1_7
    · skip
      refine lv_tableIn (tgt := 56) hx hb dX10_count_8 (by omega) (by omega) (by rw [sw_1_0]; rfl) (by decide) ?_
      refine lv_aload_n hx hb dX10_count_56 rfl (lv_at hl 1 rfl) ?_
      refine va_get (D := D) (ci := 10) (v := .ref (ma 20)) (C := RX10) (T := TX10) (N := 43) hx hb hts lay_X10 hown hK.1 hP 0 rfl rfl 20 (by decide) (hts _ fl_X10_43) (fun _ h9 => h9) rfl dX10_count_57 ?_
      refine lv_iconst (v := 0) hx hb dX10_count_60 (by decide) ?_
      refine va_iald hx hb hK.1 hP 2 1 rfl rfl (i := 0) (vp_in_iff.mpr (by decide)) dX10_count_61 ?_
      refine W.eq (g2 := F0 m 62 ls [.int 0]) rfl ?_
      exact ret_i hx hb hr hlocks ⟨⟨hS.1, hS.2.1⟩, (), ⟨_, rfl, (Or.inl ⟨rfl, (by omega), (by omega)⟩)⟩, hP.sub [] rfl, hD.sub [] (by decide) rfl⟩ hS.2.2 (Nat.le_of_ble_eq_true rfl) (Nat.le_of_ble_eq_true rfl) dX10_count_62
    · skip
      refine lv_tableIn (tgt := 63) hx hb dX10_count_8 (by omega) (by omega) (by rw [sw_1_1]; rfl) (by decide) ?_
      refine lv_aload_n hx hb dX10_count_63 rfl (lv_at hl 1 rfl) ?_
      refine va_get (D := D) (ci := 10) (v := .ref (ma 18)) (C := RX10) (T := TX10) (N := 43) hx hb hts lay_X10 hown hK.1 hP 0 rfl rfl 18 (by decide) (hts _ fl_X10_37) (fun _ h9 => h9) rfl dX10_count_64 ?_
      refine lv_iconst (v := 0) hx hb dX10_count_67 (by decide) ?_
      refine va_iald hx hb hK.1 hP 3 1 rfl rfl (i := 0) (vp_in_iff.mpr (by decide)) dX10_count_68 ?_
      refine W.eq (g2 := F0 m 69 ls [.int 0]) rfl ?_
      exact ret_i hx hb hr hlocks ⟨⟨hS.1, hS.2.1⟩, (), ⟨_, rfl, (Or.inl ⟨rfl, (by omega), (by omega)⟩)⟩, hP.sub [] rfl, hD.sub [] (by decide) rfl⟩ hS.2.2 (Nat.le_of_ble_eq_true rfl) (Nat.le_of_ble_eq_true rfl) dX10_count_69
    · skip
      refine lv_tableIn (tgt := 70) hx hb dX10_count_8 (by omega) (by omega) (by rw [sw_1_2]; rfl) (by decide) ?_
      refine lv_aload_n hx hb dX10_count_70 rfl (lv_at hl 1 rfl) ?_
      refine pu_calli (runV (As := []) (rest := []) ⟨hx, hb, hml, hown, hts⟩ (m_lastDay l D cy ma ) sV_X10_278 hK (va_recv hK.1 hP (ci := 10) (q0 := 0) rfl rfl) (hP.sub (ws' := [((ma 0), .inr (10, [.int 0, .ref (ma 1), .ref (ma 2), .ref (ma 3), .ref (ma 4), .ref (ma 5), .int 0, .int 0, .int 0, .int 0, .int 0, .long 0, .int 0, .int 0, .int 0, .int (-1), .ref (ma 16), .ref (ma 17), .ref (ma 18), .ref (ma 19), .ref (ma 20), .ref (ma 21), .ref (ma 22), .ref (ma 23), .ref (ma 24), .ref (ma 25), .ref (ma 26), .ref (ma 27), .ref (ma 28), .ref (ma 29), .ref (ma 30), .ref (ma 31), .ref (ma 32), .ref (ma 33), .ref (ma 34), .ref (ma 35), .ref (ma 36), .ref (ma 37), .ref (ma 38), .ref (ma 39), .ref (ma 40), .ref (ma 41), .long 0])), ((ma 17), .inl (cy 1, 20, .inl (fun _ => 0)))]) [0, 1] rfl) ⟨Nat.le_of_ble_eq_true rfl, Nat.le_of_ble_eq_true rfl⟩ rfl hl.1 rfl (Nat.le_of_ble_eq_true rfl) dX10_count_71 ⟨Nat.le_of_ble_eq_true rfl, Nat.le_of_ble_eq_true rfl⟩) (fun r_2 hr_2 => ?_)
      have er_2 := hr_2
      subst er_2
      refine W.eq (g2 := F0 m 74 ls [.int 0]) rfl ?_
      exact ret_i hx hb hr hlocks ⟨⟨hS.1, hS.2.1⟩, (), ⟨_, rfl, (Or.inl ⟨rfl, (by omega), (by omega)⟩)⟩, hP.sub [] rfl, hD.sub [] (by decide) rfl⟩ hS.2.2 (Nat.le_of_ble_eq_true rfl) (Nat.le_of_ble_eq_true rfl) dX10_count_74
    · skip
      refine lv_tableIn (tgt := 75) hx hb dX10_count_8 (by omega) (by omega) (by rw [sw_1_3]; rfl) (by decide) ?_
      refine lv_aload_n hx hb dX10_count_75 rfl (lv_at hl 1 rfl) ?_
      refine va_get (D := D) (ci := 10) (v := .ref (ma 16)) (C := RX10) (T := TX10) (N := 43) hx hb hts lay_X10 hown hK.1 hP 0 rfl rfl 16 (by decide) (hts _ fl_X10_31) (fun _ h9 => h9) rfl dX10_count_76 ?_
      refine lv_iconst (v := 0) hx hb dX10_count_79 (by decide) ?_
      refine va_iald hx hb hK.1 hP 4 1 rfl rfl (i := 0) (vp_in_iff.mpr (by decide)) dX10_count_80 ?_
      refine W.eq (g2 := F0 m 81 ls [.int 0]) rfl ?_
      exact ret_i hx hb hr hlocks ⟨⟨hS.1, hS.2.1⟩, (), ⟨_, rfl, (Or.inl ⟨rfl, (by omega), (by omega)⟩)⟩, hP.sub [] rfl, hD.sub [] (by decide) rfl⟩ hS.2.2 (Nat.le_of_ble_eq_true rfl) (Nat.le_of_ble_eq_true rfl) dX10_count_81
    · skip
      refine lv_tableIn (tgt := 82) hx hb dX10_count_8 (by omega) (by omega) (by rw [sw_1_4]; rfl) (by decide) ?_
      refine lv_aload_n hx hb dX10_count_82 rfl (lv_at hl 1 rfl) ?_
      refine va_get (D := D) (ci := 10) (v := .ref (ma 22)) (C := RX10) (T := TX10) (N := 43) hx hb hts lay_X10 hown hK.1 hP 0 rfl rfl 22 (by decide) (hts _ fl_X10_49) (fun _ h9 => h9) rfl dX10_count_83 ?_
      refine lv_iconst (v := 0) hx hb dX10_count_86 (by decide) ?_
      refine va_iald hx hb hK.1 hP 5 1 rfl rfl (i := 0) (vp_in_iff.mpr (by decide)) dX10_count_87 ?_
      refine W.eq (g2 := F0 m 88 ls [.int 0]) rfl ?_
      exact ret_i hx hb hr hlocks ⟨⟨hS.1, hS.2.1⟩, (), ⟨_, rfl, (Or.inl ⟨rfl, (by omega), (by omega)⟩)⟩, hP.sub [] rfl, hD.sub [] (by decide) rfl⟩ hS.2.2 (Nat.le_of_ble_eq_true rfl) (Nat.le_of_ble_eq_true rfl) dX10_count_88
    · skip
      refine lv_tableIn (tgt := 89) hx hb dX10_count_8 (by omega) (by omega) (by rw [sw_1_5]; rfl) (by decide) ?_
      refine lv_aload_n hx hb dX10_count_89 rfl (lv_at hl 1 rfl) ?_
      refine va_get (D := D) (ci := 10) (v := .int 0) (C := RX10) (T := TX10) (N := 43) hx hb hts lay_X10 hown hK.1 hP 0 rfl rfl 6 (by decide) (hts _ fl_X10_128) (fun _ h9 => h9) rfl dX10_count_90 ?_
      exact ret_i hx hb hr hlocks ⟨⟨hS.1, hS.2.1⟩, (), ⟨_, rfl, (Or.inl ⟨rfl, (by omega), (by omega)⟩)⟩, hP.sub [] rfl, hD.sub [] (by decide) rfl⟩ hS.2.2 (Nat.le_of_ble_eq_true rfl) (Nat.le_of_ble_eq_true rfl) dX10_count_93
    · skip
      refine lv_tableIn (tgt := 94) hx hb dX10_count_8 (by omega) (by omega) (by rw [sw_1_6]; rfl) (by decide) ?_
      refine lv_aload_n hx hb dX10_count_94 rfl (lv_at hl 1 rfl) ?_
      refine va_get (D := D) (ci := 10) (v := .ref (ma 26)) (C := RX10) (T := TX10) (N := 43) hx hb hts lay_X10 hown hK.1 hP 0 rfl rfl 26 (by decide) (hts _ fl_X10_62) (fun _ h9 => h9) rfl dX10_count_95 ?_
      refine lv_iconst (v := 0) hx hb dX10_count_98 (by decide) ?_
      refine va_iald hx hb hK.1 hP 6 1 rfl rfl (i := 0) (vp_in_iff.mpr (by decide)) dX10_count_99 ?_
      refine W.eq (g2 := F0 m 100 ls [.int 0]) rfl ?_
      exact ret_i hx hb hr hlocks ⟨⟨hS.1, hS.2.1⟩, (), ⟨_, rfl, (Or.inl ⟨rfl, (by omega), (by omega)⟩)⟩, hP.sub [] rfl, hD.sub [] (by decide) rfl⟩ hS.2.2 (Nat.le_of_ble_eq_true rfl) (Nat.le_of_ble_eq_true rfl) dX10_count_100
    · skip
      refine lv_tableIn (tgt := 101) hx hb dX10_count_8 (by omega) (by omega) (by rw [sw_1_7]; rfl) (by decide) ?_
      refine lv_iconst (v := 0) hx hb dX10_count_101 (by decide) ?_
      refine lv_istore_n (lv' := [(3, .int 0), (2, .int 0), (0, .ref (ma 0)), (1, .int n0)]) hx hb dX10_count_102 rfl hl (by decide) rfl (fun ls hl => ?_)
      refine lv_iload_n hx hb dX10_count_103 rfl (lv_at hl 0 rfl) ?_
      refine lv_iconst (v := 4) hx hb dX10_count_104 (by decide) ?_
      refine lv_icmp_ge (tgt := 132) hx hb dX10_count_105 (by decide) (fun c_3 => absurd c_3 (by decide)) (fun _ => ?_)
      refine lv_iload_n hx hb dX10_count_108 rfl (lv_at hl 1 rfl) ?_
      refine lv_aload_n hx hb dX10_count_109 rfl (lv_at hl 2 rfl) ?_
      refine va_get (D := D) (ci := 10) (v := .ref (ma 1)) (C := RX10) (T := TX10) (N := 43) hx hb hts lay_X10 hown hK.1 hP 0 rfl rfl 1 (by decide) (hts _ fl_X10_7) (fun _ h9 => h9) rfl dX10_count_110 ?_
      refine lv_iload_n hx hb dX10_count_113 rfl (lv_at hl 0 rfl) ?_
      refine va_iald hx hb hK.1 hP 7 1 rfl rfl (i := 0) (vp_in_iff.mpr (by decide)) dX10_count_114 ?_
      refine lv_topi (fun z_4 ez_4 => ?_)
      have ez_4 : z_4 = -1 := ez_4.trans (hw _ (by decide))
      subst ez_4
      refine lv_iconst (v := (-1)) hx hb dX10_count_115 (by decide) ?_
      refine lv_icmp_ne (tgt := 123) hx hb dX10_count_116 (by decide) (fun c_5 => absurd rfl c_5) (fun _ => ?_)
      refine lv_iconst (v := 0) hx hb dX10_count_119 (by decide) ?_
      refine lv_goto (tgt := 124) hx hb dX10_count_120 (by decide) ?_
      refine lv_iadd hx hb dX10_count_124 ?_
      refine lv_topi (fun z_6 ez_6 => ?_)
      have ez_6 : z_6 = 0 := ez_6.trans (by decide)
      subst ez_6
      refine lv_istore_n (lv' := [(2, .int 0), (3, .int 0), (0, .ref (ma 0)), (1, .int n0)]) hx hb dX10_count_125 rfl hl (by decide) rfl (fun ls hl => ?_)
      refine lv_iinc (v := 1) (lv' := [(3, .int 1), (2, .int 0), (0, .ref (ma 0)), (1, .int n0)]) hx hb dX10_count_126 hl (k := 1) rfl (by decide) (by decide) rfl (fun ls hl => ?_)
      refine lv_goto (tgt := 103) hx hb dX10_count_129 (by decide) ?_
      refine lv_iload_n hx hb dX10_count_103 rfl (lv_at hl 0 rfl) ?_
      refine lv_iconst (v := 4) hx hb dX10_count_104 (by decide) ?_
      refine lv_icmp_ge (tgt := 132) hx hb dX10_count_105 (by decide) (fun c_8 => absurd c_8 (by decide)) (fun _ => ?_)
      refine lv_iload_n hx hb dX10_count_108 rfl (lv_at hl 1 rfl) ?_
      refine lv_aload_n hx hb dX10_count_109 rfl (lv_at hl 2 rfl) ?_
      refine va_get (D := D) (ci := 10) (v := .ref (ma 1)) (C := RX10) (T := TX10) (N := 43) hx hb hts lay_X10 hown hK.1 hP 0 rfl rfl 1 (by decide) (hts _ fl_X10_7) (fun _ h9 => h9) rfl dX10_count_110 ?_
      refine lv_iload_n hx hb dX10_count_113 rfl (lv_at hl 0 rfl) ?_
      refine va_iald hx hb hK.1 hP 7 1 rfl rfl (i := 1) (vp_in_iff.mpr (by decide)) dX10_count_114 ?_
      refine lv_topi (fun z_9 ez_9 => ?_)
      have ez_9 : z_9 = -1 := ez_9.trans (hw _ (by decide))
      subst ez_9
      refine lv_iconst (v := (-1)) hx hb dX10_count_115 (by decide) ?_
      refine lv_icmp_ne (tgt := 123) hx hb dX10_count_116 (by decide) (fun c_10 => absurd rfl c_10) (fun _ => ?_)
      refine lv_iconst (v := 0) hx hb dX10_count_119 (by decide) ?_
      refine lv_goto (tgt := 124) hx hb dX10_count_120 (by decide) ?_
      refine lv_iadd hx hb dX10_count_124 ?_
      refine lv_topi (fun z_11 ez_11 => ?_)
      have ez_11 : z_11 = 0 := ez_11.trans (by decide)
      subst ez_11
      refine lv_istore_n (lv' := [(2, .int 0), (3, .int 1), (0, .ref (ma 0)), (1, .int n0)]) hx hb dX10_count_125 rfl hl (by decide) rfl (fun ls hl => ?_)
      refine lv_iinc (v := 2) (lv' := [(3, .int 2), (2, .int 0), (0, .ref (ma 0)), (1, .int n0)]) hx hb dX10_count_126 hl (k := 1) rfl (by decide) (by decide) rfl (fun ls hl => ?_)
      refine lv_goto (tgt := 103) hx hb dX10_count_129 (by decide) ?_
      refine lv_iload_n hx hb dX10_count_103 rfl (lv_at hl 0 rfl) ?_
      refine lv_iconst (v := 4) hx hb dX10_count_104 (by decide) ?_
      refine lv_icmp_ge (tgt := 132) hx hb dX10_count_105 (by decide) (fun c_13 => absurd c_13 (by decide)) (fun _ => ?_)
      refine lv_iload_n hx hb dX10_count_108 rfl (lv_at hl 1 rfl) ?_
      refine lv_aload_n hx hb dX10_count_109 rfl (lv_at hl 2 rfl) ?_
      refine va_get (D := D) (ci := 10) (v := .ref (ma 1)) (C := RX10) (T := TX10) (N := 43) hx hb hts lay_X10 hown hK.1 hP 0 rfl rfl 1 (by decide) (hts _ fl_X10_7) (fun _ h9 => h9) rfl dX10_count_110 ?_
      refine lv_iload_n hx hb dX10_count_113 rfl (lv_at hl 0 rfl) ?_
      refine va_iald hx hb hK.1 hP 7 1 rfl rfl (i := 2) (vp_in_iff.mpr (by decide)) dX10_count_114 ?_
      refine lv_topi (fun z_14 ez_14 => ?_)
      have ez_14 : z_14 = -1 := ez_14.trans (hw _ (by decide))
      subst ez_14
      refine lv_iconst (v := (-1)) hx hb dX10_count_115 (by decide) ?_
      refine lv_icmp_ne (tgt := 123) hx hb dX10_count_116 (by decide) (fun c_15 => absurd rfl c_15) (fun _ => ?_)
      refine lv_iconst (v := 0) hx hb dX10_count_119 (by decide) ?_
      refine lv_goto (tgt := 124) hx hb dX10_count_120 (by decide) ?_
      refine lv_iadd hx hb dX10_count_124 ?_
      refine lv_topi (fun z_16 ez_16 => ?_)
      have ez_16 : z_16 = 0 := ez_16.trans (by decide)
      subst ez_16
      refine lv_istore_n (lv' := [(2, .int 0), (3, .int 2), (0, .ref (ma 0)), (1, .int n0)]) hx hb dX10_count_125 rfl hl (by decide) rfl (fun ls hl => ?_)
      refine lv_iinc (v := 3) (lv' := [(3, .int 3), (2, .int 0), (0, .ref (ma 0)), (1, .int n0)]) hx hb dX10_count_126 hl (k := 1) rfl (by decide) (by decide) rfl (fun ls hl => ?_)
      refine lv_goto (tgt := 103) hx hb dX10_count_129 (by decide) ?_
      refine lv_iload_n hx hb dX10_count_103 rfl (lv_at hl 0 rfl) ?_
      refine lv_iconst (v := 4) hx hb dX10_count_104 (by decide) ?_
      refine lv_icmp_ge (tgt := 132) hx hb dX10_count_105 (by decide) (fun c_18 => absurd c_18 (by decide)) (fun _ => ?_)
      refine lv_iload_n hx hb dX10_count_108 rfl (lv_at hl 1 rfl) ?_
      refine lv_aload_n hx hb dX10_count_109 rfl (lv_at hl 2 rfl) ?_
      refine va_get (D := D) (ci := 10) (v := .ref (ma 1)) (C := RX10) (T := TX10) (N := 43) hx hb hts lay_X10 hown hK.1 hP 0 rfl rfl 1 (by decide) (hts _ fl_X10_7) (fun _ h9 => h9) rfl dX10_count_110 ?_
      refine lv_iload_n hx hb dX10_count_113 rfl (lv_at hl 0 rfl) ?_
      refine va_iald hx hb hK.1 hP 7 1 rfl rfl (i := 3) (vp_in_iff.mpr (by decide)) dX10_count_114 ?_
      refine lv_topi (fun z_19 ez_19 => ?_)
      have ez_19 : z_19 = -1 := ez_19.trans (hw _ (by decide))
      subst ez_19
      refine lv_iconst (v := (-1)) hx hb dX10_count_115 (by decide) ?_
      refine lv_icmp_ne (tgt := 123) hx hb dX10_count_116 (by decide) (fun c_20 => absurd rfl c_20) (fun _ => ?_)
      refine lv_iconst (v := 0) hx hb dX10_count_119 (by decide) ?_
      refine lv_goto (tgt := 124) hx hb dX10_count_120 (by decide) ?_
      refine lv_iadd hx hb dX10_count_124 ?_
      refine lv_topi (fun z_21 ez_21 => ?_)
      have ez_21 : z_21 = 0 := ez_21.trans (by decide)
      subst ez_21
      refine lv_istore_n (lv' := [(2, .int 0), (3, .int 3), (0, .ref (ma 0)), (1, .int n0)]) hx hb dX10_count_125 rfl hl (by decide) rfl (fun ls hl => ?_)
      refine lv_iinc (v := 4) (lv' := [(3, .int 4), (2, .int 0), (0, .ref (ma 0)), (1, .int n0)]) hx hb dX10_count_126 hl (k := 1) rfl (by decide) (by decide) rfl (fun ls hl => ?_)
      refine lv_goto (tgt := 103) hx hb dX10_count_129 (by decide) ?_
      refine lv_iload_n hx hb dX10_count_103 rfl (lv_at hl 0 rfl) ?_
      refine lv_iconst (v := 4) hx hb dX10_count_104 (by decide) ?_
      refine lv_icmp_ge (tgt := 132) hx hb dX10_count_105 (by decide) (fun _ => ?_) (fun c_23 => absurd (by decide) c_23)
      refine lv_iload_n hx hb dX10_count_132 rfl (lv_at hl 1 rfl) ?_
      exact ret_i hx hb hr hlocks ⟨⟨hS.1, hS.2.1⟩, (), ⟨_, rfl, (Or.inl ⟨rfl, (by omega), (by omega)⟩)⟩, hP.sub [] rfl, hD.sub [] (by decide) rfl⟩ hS.2.2 (Nat.le_of_ble_eq_true rfl) (Nat.le_of_ble_eq_true rfl) dX10_count_133
set_option maxHeartbeats 4000000 in
set_option maxRecDepth 100000 in
theorem f_X9_back (l : Launch) (D : va_G) (cy : Nat → ClassId) (xa : Nat → Nat) (n0 : Int32) : MM l yX9_back cX9_back 3 (some .int) 0 0 0 D cy [.ref (xa 0), .int n0] (fun H => va_P D vwCl [((xa 0), .inr (9, [.ref (xa 1), .ref (xa 2), .ref (xa 3), .ref (xa 4), .ref (xa 5), .ref (xa 6), .ref (xa 7), .ref (xa 8), .ref (xa 9), .int 0, .ref (xa 11), .null, .int 0, .int (-1)])), ((xa 9), .inl (cy 5, 3, .inr (.inr (.inr (.inr (fun _ => none))))))] H) (PuI (fun r => (r = (-6) ∧ 0 ≤ n0.toInt ∧ n0.toInt ≤ 2) ∨ (r = (-2) ∧ (n0.toInt < 0 ∨ 2 < n0.toInt)))) noF := by
  refine MM.of (by decide) (Nat.le_of_ble_eq_true rfl) ?_
  intro p e s m below meth c C hP ls hl
  obtain ⟨hx, hb, hr, hml, hown, hts, hlocks, hK, hnm⟩ := C
  have hP : va_P D vwCl [((xa 0), .inr (9, [.ref (xa 1), .ref (xa 2), .ref (xa 3), .ref (xa 4), .ref (xa 5), .ref (xa 6), .ref (xa 7), .ref (xa 8), .ref (xa 9), .int 0, .ref (xa 11), .null, .int 0, .int (-1)])), ((xa 9), .inl (cy 5, 3, .inr (.inr (.inr (.inr (fun _ => none))))))] s.heap := hP
  have hl : lv_has ls 3 [(0, .ref (xa 0)), (1, .int n0)] := hl
  refine lv_iload_n hx hb dX9_back_0 rfl (lv_at hl 1 rfl) ?_
  refine lv_if_lt (tgt := 9) hx hb dX9_back_1 (by decide) (fun c_1 => ?_) (fun c_1 => ?_)
  · skip
    have tc_1 : n0.toInt < 0 := (fa_lt _ _).mp c_1
    refine lv_bipush (v := (-2)) hx hb dX9_back_9 (by decide) ?_
    exact ret_i hx hb hr hlocks ⟨rfl, _, rfl, (Or.inr ⟨rfl, (by omega)⟩)⟩ (fun _ h => absurd h List.not_mem_nil) (Nat.le_refl _) (Nat.le_refl _) dX9_back_11
  · skip
    have tc_1 : ¬ n0.toInt < 0 := fun h => c_1 ((fa_lt _ _).mpr h)
    refine lv_iload_n hx hb dX9_back_4 rfl (lv_at hl 1 rfl) ?_
    refine lv_iconst (v := 3) hx hb dX9_back_5 (by decide) ?_
    refine lv_icmp_lt (tgt := 12) hx hb dX9_back_6 (by decide) (fun c_2 => ?_) (fun c_2 => ?_)
    · skip
      have tc_2 : n0.toInt < 3 := (fa_lt _ _).mp c_2
      refine lv_aload_n hx hb dX9_back_12 rfl (lv_at hl 0 rfl) ?_
      refine va_get (D := D) (ci := 9) (v := .ref (xa 9)) (C := RX9) (T := TX9) (N := 14) hx hb hts lay_X9 hown hK.1 hP 0 rfl rfl 8 (by decide) (hts _ fl_X9_60) (fun _ h9 => h9) rfl dX9_back_13 ?_
      refine lv_iload_n hx hb dX9_back_16 rfl (lv_at hl 1 rfl) ?_
      refine va_aldq (C := RX1) hx hb hK.1 hP 1 5 rfl rfl (i := n0) (vp_in_iff.mpr ⟨by omega, by omega⟩) dX9_back_17 ?_
      refine W.eq (g2 := F0 m 18 ls [.null]) rfl ?_
      refine lv_astore_nN (lv' := [(2, .null), (0, .ref (xa 0)), (1, .int n0)]) hx hb dX9_back_18 rfl hl (by decide) rfl (fun ls hl => ?_)
      refine lv_aload_nN hx hb dX9_back_19 rfl (lv_at hl 0 rfl) ?_
      refine lv_ifnonnullN hx hb dX9_back_20 ?_
      refine lv_bipush (v := (-6)) hx hb dX9_back_23 (by decide) ?_
      exact ret_i hx hb hr hlocks ⟨rfl, _, rfl, (Or.inl ⟨rfl, (by omega), (by omega)⟩)⟩ (fun _ h => absurd h List.not_mem_nil) (Nat.le_refl _) (Nat.le_refl _) dX9_back_25
    · skip
      have tc_2 : ¬ n0.toInt < 3 := fun h => c_2 ((fa_lt _ _).mpr h)
      refine lv_bipush (v := (-2)) hx hb dX9_back_9 (by decide) ?_
      exact ret_i hx hb hr hlocks ⟨rfl, _, rfl, (Or.inr ⟨rfl, (by omega)⟩)⟩ (fun _ h => absurd h List.not_mem_nil) (Nat.le_refl _) (Nat.le_refl _) dX9_back_11
set_option maxHeartbeats 4000000 in
set_option maxRecDepth 100000 in
theorem g_X10_back (l : Launch) (D : va_G) (cy : Nat → ClassId) (ma : Nat → Nat) (n0 : Int32) (sz : Nat) : MM l yX10_back cX10_back 2 (some .int) 1 0 0 D cy [.ref (ma 0), .int n0] (PW D [((ma 0), .inr (10, [.int 0, .ref (ma 1), .ref (ma 2), .ref (ma 3), .ref (ma 4), .ref (ma 5), .int 0, .int 0, .int 0, .int 0, .int 0, .long 0, .int 0, .int 0, .int 0, .int (-1), .ref (ma 16), .ref (ma 17), .ref (ma 18), .ref (ma 19), .ref (ma 20), .ref (ma 21), .ref (ma 22), .ref (ma 23), .ref (ma 24), .ref (ma 25), .ref (ma 26), .ref (ma 27), .ref (ma 28), .ref (ma 29), .ref (ma 30), .ref (ma 31), .ref (ma 32), .ref (ma 33), .ref (ma 34), .ref (ma 35), .ref (ma 36), .ref (ma 37), .ref (ma 38), .ref (ma 39), .ref (ma 40), .ref (ma 41), .long 0])), ((ma 28), .inl (cy 3, 3, .inl (fun _ => 0)))] sz) (QW D (va_A [((ma 0), .inr (10, [.int 0, .ref (ma 1), .ref (ma 2), .ref (ma 3), .ref (ma 4), .ref (ma 5), .int 0, .int 0, .int 0, .int 0, .int 0, .long 0, .int 0, .int 0, .int 0, .int (-1), .ref (ma 16), .ref (ma 17), .ref (ma 18), .ref (ma 19), .ref (ma 20), .ref (ma 21), .ref (ma 22), .ref (ma 23), .ref (ma 24), .ref (ma 25), .ref (ma 26), .ref (ma 27), .ref (ma 28), .ref (ma 29), .ref (ma 30), .ref (ma 31), .ref (ma 32), .ref (ma 33), .ref (ma 34), .ref (ma 35), .ref (ma 36), .ref (ma 37), .ref (ma 38), .ref (ma 39), .ref (ma 40), .ref (ma 41), .long 0])), ((ma 28), .inl (cy 3, 3, .inl (fun _ => 0)))] sz) (S := Unit) (fun v u => (∃ r : Int32, v = some (.int r) ∧ ((r = (-6) ∧ 0 ≤ n0.toInt ∧ n0.toInt ≤ 2) ∨ (r = (-2) ∧ (n0.toInt < 0 ∨ 2 < n0.toInt))))) (fun u => [])) (va_A [((ma 0), .inr (10, [.int 0, .ref (ma 1), .ref (ma 2), .ref (ma 3), .ref (ma 4), .ref (ma 5), .int 0, .int 0, .int 0, .int 0, .int 0, .long 0, .int 0, .int 0, .int 0, .int (-1), .ref (ma 16), .ref (ma 17), .ref (ma 18), .ref (ma 19), .ref (ma 20), .ref (ma 21), .ref (ma 22), .ref (ma 23), .ref (ma 24), .ref (ma 25), .ref (ma 26), .ref (ma 27), .ref (ma 28), .ref (ma 29), .ref (ma 30), .ref (ma 31), .ref (ma 32), .ref (ma 33), .ref (ma 34), .ref (ma 35), .ref (ma 36), .ref (ma 37), .ref (ma 38), .ref (ma 39), .ref (ma 40), .ref (ma 41), .long 0])), ((ma 28), .inl (cy 3, 3, .inl (fun _ => 0)))] sz) := by
  refine MM.of (by decide) (Nat.le_of_ble_eq_true rfl) ?_
  intro p e s m below meth c C hPW ls hl
  obtain ⟨hx, hb, hr, hml, hown, hts, hlocks, hK, hnm⟩ := C
  obtain ⟨rfl, hP, hD0⟩ := hPW
  have hD := hD0.self (sz := s.heap.size)
  have hA : ∀ q : Nat, s.heap.size ≤ q → (va_A [((ma 0), .inr (10, [.int 0, .ref (ma 1), .ref (ma 2), .ref (ma 3), .ref (ma 4), .ref (ma 5), .int 0, .int 0, .int 0, .int 0, .int 0, .long 0, .int 0, .int 0, .int 0, .int (-1), .ref (ma 16), .ref (ma 17), .ref (ma 18), .ref (ma 19), .ref (ma 20), .ref (ma 21), .ref (ma 22), .ref (ma 23), .ref (ma 24), .ref (ma 25), .ref (ma 26), .ref (ma 27), .ref (ma 28), .ref (ma 29), .ref (ma 30), .ref (ma 31), .ref (ma 32), .ref (ma 33), .ref (ma 34), .ref (ma 35), .ref (ma 36), .ref (ma 37), .ref (ma 38), .ref (ma 39), .ref (ma 40), .ref (ma 41), .long 0])), ((ma 28), .inl (cy 3, 3, .inl (fun _ => 0)))] s.heap.size) q := fun q h => Or.inr h
  have hS : va_S (va_A [((ma 0), .inr (10, [.int 0, .ref (ma 1), .ref (ma 2), .ref (ma 3), .ref (ma 4), .ref (ma 5), .int 0, .int 0, .int 0, .int 0, .int 0, .long 0, .int 0, .int 0, .int 0, .int (-1), .ref (ma 16), .ref (ma 17), .ref (ma 18), .ref (ma 19), .ref (ma 20), .ref (ma 21), .ref (ma 22), .ref (ma 23), .ref (ma 24), .ref (ma 25), .ref (ma 26), .ref (ma 27), .ref (ma 28), .ref (ma 29), .ref (ma 30), .ref (ma 31), .ref (ma 32), .ref (ma 33), .ref (ma 34), .ref (ma 35), .ref (ma 36), .ref (ma 37), .ref (ma 38), .ref (ma 39), .ref (ma 40), .ref (ma 41), .long 0])), ((ma 28), .inl (cy 3, 3, .inl (fun _ => 0)))] s.heap.size) s.heap s.heap [] := va_S.rf
  generalize va_A [((ma 0), .inr (10, [.int 0, .ref (ma 1), .ref (ma 2), .ref (ma 3), .ref (ma 4), .ref (ma 5), .int 0, .int 0, .int 0, .int 0, .int 0, .long 0, .int 0, .int 0, .int 0, .int (-1), .ref (ma 16), .ref (ma 17), .ref (ma 18), .ref (ma 19), .ref (ma 20), .ref (ma 21), .ref (ma 22), .ref (ma 23), .ref (ma 24), .ref (ma 25), .ref (ma 26), .ref (ma 27), .ref (ma 28), .ref (ma 29), .ref (ma 30), .ref (ma 31), .ref (ma 32), .ref (ma 33), .ref (ma 34), .ref (ma 35), .ref (ma 36), .ref (ma 37), .ref (ma 38), .ref (ma 39), .ref (ma 40), .ref (ma 41), .long 0])), ((ma 28), .inl (cy 3, 3, .inl (fun _ => 0)))] s.heap.size = A at hD hA hS ⊢
  have hP : va_P D vwCl [((ma 0), .inr (10, [.int 0, .ref (ma 1), .ref (ma 2), .ref (ma 3), .ref (ma 4), .ref (ma 5), .int 0, .int 0, .int 0, .int 0, .int 0, .long 0, .int 0, .int 0, .int 0, .int (-1), .ref (ma 16), .ref (ma 17), .ref (ma 18), .ref (ma 19), .ref (ma 20), .ref (ma 21), .ref (ma 22), .ref (ma 23), .ref (ma 24), .ref (ma 25), .ref (ma 26), .ref (ma 27), .ref (ma 28), .ref (ma 29), .ref (ma 30), .ref (ma 31), .ref (ma 32), .ref (ma 33), .ref (ma 34), .ref (ma 35), .ref (ma 36), .ref (ma 37), .ref (ma 38), .ref (ma 39), .ref (ma 40), .ref (ma 41), .long 0])), ((ma 28), .inl (cy 3, 3, .inl (fun _ => 0)))] s.heap := hP
  have hl : lv_has ls 2 [(0, .ref (ma 0)), (1, .int n0)] := hl
  refine lv_aload_n hx hb dX10_back_0 rfl (lv_at hl 0 rfl) ?_
  refine lv_iconst (v := 0) hx hb dX10_back_1 (by decide) ?_
  refine va_put (D := D) (ci := 10) (v := .int 0) (ty := tyX10 0) (C := RX10) (T := TX10) (N := 43) hx hb hts lay_X10 tyX10 tyX10_ok nmX10 hown hK.1 hP hD hS 0 rfl rfl 0 (by decide) (hts _ fl_X10_111) (fun _ h9 => h9) rfl (tyX10_ok 0 (by decide)) rfl rfl (Nat.le_of_ble_eq_true rfl) dX10_back_2 (fun H locs hP hD hS => ?_)
  have hP : va_P D vwCl [((ma 0), .inr (10, [.int 0, .ref (ma 1), .ref (ma 2), .ref (ma 3), .ref (ma 4), .ref (ma 5), .int 0, .int 0, .int 0, .int 0, .int 0, .long 0, .int 0, .int 0, .int 0, .int (-1), .ref (ma 16), .ref (ma 17), .ref (ma 18), .ref (ma 19), .ref (ma 20), .ref (ma 21), .ref (ma 22), .ref (ma 23), .ref (ma 24), .ref (ma 25), .ref (ma 26), .ref (ma 27), .ref (ma 28), .ref (ma 29), .ref (ma 30), .ref (ma 31), .ref (ma 32), .ref (ma 33), .ref (ma 34), .ref (ma 35), .ref (ma 36), .ref (ma 37), .ref (ma 38), .ref (ma 39), .ref (ma 40), .ref (ma 41), .long 0])), ((ma 28), .inl (cy 3, 3, .inl (fun _ => 0)))] H := hP
  have hD : va_D A [((ma 0), .inr (10, [.int 0, .ref (ma 1), .ref (ma 2), .ref (ma 3), .ref (ma 4), .ref (ma 5), .int 0, .int 0, .int 0, .int 0, .int 0, .long 0, .int 0, .int 0, .int 0, .int (-1), .ref (ma 16), .ref (ma 17), .ref (ma 18), .ref (ma 19), .ref (ma 20), .ref (ma 21), .ref (ma 22), .ref (ma 23), .ref (ma 24), .ref (ma 25), .ref (ma 26), .ref (ma 27), .ref (ma 28), .ref (ma 29), .ref (ma 30), .ref (ma 31), .ref (ma 32), .ref (ma 33), .ref (ma 34), .ref (ma 35), .ref (ma 36), .ref (ma 37), .ref (ma 38), .ref (ma 39), .ref (ma 40), .ref (ma 41), .long 0])), ((ma 28), .inl (cy 3, 3, .inl (fun _ => 0)))] := hD
  refine lv_iload_n hx hb dX10_back_5 rfl (lv_at hl 1 rfl) ?_
  refine lv_i2l hx hb dX10_back_6 rfl ?_
  refine lv_topl (fun z_1 ez_1 => ?_)
  have tz_1 : z_1.toInt = n0.toInt := by rw [ez_1]; exact wide_t n0
  refine lv_lconst (v := 0) hx hb dX10_back_7 (by decide) ?_
  refine lv_ldc2 (v := 2) hx hb hown (hts _ kl_X10_502) dX10_back_8 ?_
  refine pu_calli (runS (As := [.long z_1, .long 0, .long 2]) (rest := []) ⟨hx, hb, hml, hown, hts⟩ (m_in l D cy z_1 0 2 ) sS_X10_116 hK (hP.sub (ws' := []) [] rfl) ⟨Nat.le_of_ble_eq_true rfl, Nat.le_of_ble_eq_true rfl⟩ rfl hl.1 rfl (Nat.le_of_ble_eq_true rfl) dX10_back_11 ⟨Nat.le_of_ble_eq_true rfl, Nat.le_of_ble_eq_true rfl⟩) (fun r_2 hr_2 => ?_)
  rcases hr_2 with hr_2_0 | hr_2_1
  · skip
    obtain ⟨er_2, hr_2_0_f0, hr_2_0_f1⟩ := hr_2_0
    have hr_2_0_f0 : 0 ≤ z_1.toInt := hr_2_0_f0
    have hr_2_0_f1 : z_1.toInt ≤ 2 := hr_2_0_f1
    subst er_2
    refine W.eq (g2 := F0 m 14 ls [.int 1]) rfl ?_
    refine lv_if_ne (tgt := 20) hx hb dX10_back_14 (by decide) (fun _ => ?_) (fun c_3 => absurd c_3 (by decide))
    refine lv_aload_n hx hb dX10_back_20 rfl (lv_at hl 0 rfl) ?_
    refine va_get (D := D) (ci := 10) (v := .ref (ma 28)) (C := RX10) (T := TX10) (N := 43) hx hb hts lay_X10 hown hK.1 hP 0 rfl rfl 28 (by decide) (hts _ fl_X10_68) (fun _ h9 => h9) rfl dX10_back_21 ?_
    refine lv_iload_n hx hb dX10_back_24 rfl (lv_at hl 1 rfl) ?_
    refine va_zald hx hb hK.1 hP 1 3 rfl rfl (i := n0) (vp_in_iff.mpr ⟨by omega, by omega⟩) dX10_back_25 ?_
    refine W.eq (g2 := F0 m 26 ls [.int 0]) rfl ?_
    refine lv_if_ne (tgt := 32) hx hb dX10_back_26 (by decide) (fun c_4 => absurd rfl c_4) (fun _ => ?_)
    refine lv_bipush (v := (-6)) hx hb dX10_back_29 (by decide) ?_
    exact ret_i hx hb hr hlocks ⟨⟨hS.1, hS.2.1⟩, (), ⟨_, rfl, (Or.inl ⟨rfl, (by omega), (by omega)⟩)⟩, hP.sub [] rfl, hD.sub [] (by decide) rfl⟩ hS.2.2 (Nat.le_of_ble_eq_true rfl) (Nat.le_of_ble_eq_true rfl) dX10_back_31
  · skip
    obtain ⟨er_2, hr_2_1_f0⟩ := hr_2_1
    have hr_2_1_f0 : (z_1.toInt < 0 ∨ 2 < z_1.toInt) := hr_2_1_f0
    subst er_2
    refine W.eq (g2 := F0 m 14 ls [.int 0]) rfl ?_
    refine lv_if_ne (tgt := 20) hx hb dX10_back_14 (by decide) (fun c_5 => absurd rfl c_5) (fun _ => ?_)
    refine lv_bipush (v := (-2)) hx hb dX10_back_17 (by decide) ?_
    exact ret_i hx hb hr hlocks ⟨⟨hS.1, hS.2.1⟩, (), ⟨_, rfl, (Or.inr ⟨rfl, (by omega)⟩)⟩, hP.sub [] rfl, hD.sub [] (by decide) rfl⟩ hS.2.2 (Nat.le_of_ble_eq_true rfl) (Nat.le_of_ble_eq_true rfl) dX10_back_19
set_option maxHeartbeats 4000000 in
set_option maxRecDepth 100000 in
theorem f_X9_write (l : Launch) (D : va_G) (cy : Nat → ClassId) (xa : Nat → Nat) (n0 : Int32) (n1 : Int32) (n2 : Int64) : MM l yX9_write cX9_write 6 (some .int) 1 0 0 D cy [.ref (xa 0), .int n0, .int n1, .long n2] (fun H => va_P D vwCl [((xa 0), .inr (9, [.ref (xa 1), .ref (xa 2), .ref (xa 3), .ref (xa 4), .ref (xa 5), .ref (xa 6), .ref (xa 7), .ref (xa 8), .ref (xa 9), .int 0, .ref (xa 11), .null, .int 0, .int (-1)])), ((xa 8), .inl (cy 4, 4, .inr (.inr (.inr (.inr (fun _ => none))))))] H) (PuI (fun r => (r = (-6) ∧ 0 ≤ n0.toInt ∧ n0.toInt ≤ 3) ∨ (r = (-2) ∧ (n0.toInt < 0 ∨ 3 < n0.toInt)))) noF := by
  refine MM.of (by decide) (Nat.le_of_ble_eq_true rfl) ?_
  intro p e s m below meth c C hP ls hl
  obtain ⟨hx, hb, hr, hml, hown, hts, hlocks, hK, hnm⟩ := C
  have hP : va_P D vwCl [((xa 0), .inr (9, [.ref (xa 1), .ref (xa 2), .ref (xa 3), .ref (xa 4), .ref (xa 5), .ref (xa 6), .ref (xa 7), .ref (xa 8), .ref (xa 9), .int 0, .ref (xa 11), .null, .int 0, .int (-1)])), ((xa 8), .inl (cy 4, 4, .inr (.inr (.inr (.inr (fun _ => none))))))] s.heap := hP
  have hl : lv_has ls 6 [(0, .ref (xa 0)), (1, .int n0), (2, .int n1), (3, .long n2)] := hl
  refine lv_iload_n hx hb dX9_write_0 rfl (lv_at hl 1 rfl) ?_
  refine pu_calli (runS (As := [.int n0]) (rest := []) ⟨hx, hb, hml, hown, hts⟩ (f_isSlot l D cy n0 ) sS_X9_312 hK (hP.sub (ws' := []) [] rfl) ⟨Nat.le_of_ble_eq_true rfl, Nat.le_of_ble_eq_true rfl⟩ rfl hl.1 rfl (Nat.le_of_ble_eq_true rfl) dX9_write_1 ⟨Nat.le_of_ble_eq_true rfl, Nat.le_of_ble_eq_true rfl⟩) (fun r_1 hr_1 => ?_)
  rcases hr_1 with hr_1_0 | hr_1_1
  · skip
    obtain ⟨er_1, hr_1_0_f0, hr_1_0_f1⟩ := hr_1_0
    have hr_1_0_f0 : 0 ≤ n0.toInt := hr_1_0_f0
    have hr_1_0_f1 : n0.toInt ≤ 3 := hr_1_0_f1
    subst er_1
    refine W.eq (g2 := F0 m 4 ls [.int 1]) rfl ?_
    refine lv_if_ne (tgt := 10) hx hb dX9_write_4 (by decide) (fun _ => ?_) (fun c_2 => absurd c_2 (by decide))
    refine lv_aload_n hx hb dX9_write_10 rfl (lv_at hl 0 rfl) ?_
    refine va_get (D := D) (ci := 9) (v := .ref (xa 8)) (C := RX9) (T := TX9) (N := 14) hx hb hts lay_X9 hown hK.1 hP 0 rfl rfl 7 (by decide) (hts _ fl_X9_54) (fun _ h9 => h9) rfl dX9_write_11 ?_
    refine lv_iload_n hx hb dX9_write_14 rfl (lv_at hl 1 rfl) ?_
    refine va_aldq (C := RX6) hx hb hK.1 hP 1 4 rfl rfl (i := n0) (vp_in_iff.mpr ⟨by omega, by omega⟩) dX9_write_15 ?_
    refine W.eq (g2 := F0 m 16 ls [.null]) rfl ?_
    refine lv_astoreN (lv' := [(5, .null), (0, .ref (xa 0)), (1, .int n0), (2, .int n1), (3, .long n2)]) hx hb dX9_write_16 hl (by decide) rfl (fun ls hl => ?_)
    refine lv_aloadN hx hb dX9_write_18 (lv_at hl 0 rfl) ?_
    refine lv_ifnonnullN hx hb dX9_write_20 ?_
    refine lv_bipush (v := (-6)) hx hb dX9_write_23 (by decide) ?_
    exact ret_i hx hb hr hlocks ⟨rfl, _, rfl, (Or.inl ⟨rfl, (by omega), (by omega)⟩)⟩ (fun _ h => absurd h List.not_mem_nil) (Nat.le_refl _) (Nat.le_refl _) dX9_write_25
  · skip
    obtain ⟨er_1, hr_1_1_f0⟩ := hr_1_1
    have hr_1_1_f0 : (n0.toInt < 0 ∨ 3 < n0.toInt) := hr_1_1_f0
    subst er_1
    refine W.eq (g2 := F0 m 4 ls [.int 0]) rfl ?_
    refine lv_if_ne (tgt := 10) hx hb dX9_write_4 (by decide) (fun c_3 => absurd rfl c_3) (fun _ => ?_)
    refine lv_bipush (v := (-2)) hx hb dX9_write_7 (by decide) ?_
    exact ret_i hx hb hr hlocks ⟨rfl, _, rfl, (Or.inr ⟨rfl, (by omega)⟩)⟩ (fun _ h => absurd h List.not_mem_nil) (Nat.le_refl _) (Nat.le_refl _) dX9_write_9
set_option maxHeartbeats 4000000 in
set_option maxRecDepth 100000 in
theorem g_X10_write (l : Launch) (D : va_G) (cy : Nat → ClassId) (ma : Nat → Nat) (fw : Nat → Int32) (n0 : Int32) (n1 : Int32) (n2 : Int64) (hw : ∀ k : Nat, k < 4 → fw k = -1) (sz : Nat) : MM l yX10_write cX10_write 5 (some .int) 2 0 0 D cy [.ref (ma 0), .int n0, .int n1, .long n2] (PW D [((ma 0), .inr (10, [.int 0, .ref (ma 1), .ref (ma 2), .ref (ma 3), .ref (ma 4), .ref (ma 5), .int 0, .int 0, .int 0, .int 0, .int 0, .long 0, .int 0, .int 0, .int 0, .int (-1), .ref (ma 16), .ref (ma 17), .ref (ma 18), .ref (ma 19), .ref (ma 20), .ref (ma 21), .ref (ma 22), .ref (ma 23), .ref (ma 24), .ref (ma 25), .ref (ma 26), .ref (ma 27), .ref (ma 28), .ref (ma 29), .ref (ma 30), .ref (ma 31), .ref (ma 32), .ref (ma 33), .ref (ma 34), .ref (ma 35), .ref (ma 36), .ref (ma 37), .ref (ma 38), .ref (ma 39), .ref (ma 40), .ref (ma 41), .long 0])), ((ma 1), .inl (cy 1, 4, .inl fw))] sz) (QW D (va_A [((ma 0), .inr (10, [.int 0, .ref (ma 1), .ref (ma 2), .ref (ma 3), .ref (ma 4), .ref (ma 5), .int 0, .int 0, .int 0, .int 0, .int 0, .long 0, .int 0, .int 0, .int 0, .int (-1), .ref (ma 16), .ref (ma 17), .ref (ma 18), .ref (ma 19), .ref (ma 20), .ref (ma 21), .ref (ma 22), .ref (ma 23), .ref (ma 24), .ref (ma 25), .ref (ma 26), .ref (ma 27), .ref (ma 28), .ref (ma 29), .ref (ma 30), .ref (ma 31), .ref (ma 32), .ref (ma 33), .ref (ma 34), .ref (ma 35), .ref (ma 36), .ref (ma 37), .ref (ma 38), .ref (ma 39), .ref (ma 40), .ref (ma 41), .long 0])), ((ma 1), .inl (cy 1, 4, .inl fw))] sz) (S := Unit) (fun v u => (∃ r : Int32, v = some (.int r) ∧ ((r = (-6) ∧ 0 ≤ n0.toInt ∧ n0.toInt ≤ 3) ∨ (r = (-2) ∧ (n0.toInt < 0 ∨ 3 < n0.toInt))))) (fun u => [])) (va_A [((ma 0), .inr (10, [.int 0, .ref (ma 1), .ref (ma 2), .ref (ma 3), .ref (ma 4), .ref (ma 5), .int 0, .int 0, .int 0, .int 0, .int 0, .long 0, .int 0, .int 0, .int 0, .int (-1), .ref (ma 16), .ref (ma 17), .ref (ma 18), .ref (ma 19), .ref (ma 20), .ref (ma 21), .ref (ma 22), .ref (ma 23), .ref (ma 24), .ref (ma 25), .ref (ma 26), .ref (ma 27), .ref (ma 28), .ref (ma 29), .ref (ma 30), .ref (ma 31), .ref (ma 32), .ref (ma 33), .ref (ma 34), .ref (ma 35), .ref (ma 36), .ref (ma 37), .ref (ma 38), .ref (ma 39), .ref (ma 40), .ref (ma 41), .long 0])), ((ma 1), .inl (cy 1, 4, .inl fw))] sz) := by
  refine MM.of (by decide) (Nat.le_of_ble_eq_true rfl) ?_
  intro p e s m below meth c C hPW ls hl
  obtain ⟨hx, hb, hr, hml, hown, hts, hlocks, hK, hnm⟩ := C
  obtain ⟨rfl, hP, hD0⟩ := hPW
  have hD := hD0.self (sz := s.heap.size)
  have hA : ∀ q : Nat, s.heap.size ≤ q → (va_A [((ma 0), .inr (10, [.int 0, .ref (ma 1), .ref (ma 2), .ref (ma 3), .ref (ma 4), .ref (ma 5), .int 0, .int 0, .int 0, .int 0, .int 0, .long 0, .int 0, .int 0, .int 0, .int (-1), .ref (ma 16), .ref (ma 17), .ref (ma 18), .ref (ma 19), .ref (ma 20), .ref (ma 21), .ref (ma 22), .ref (ma 23), .ref (ma 24), .ref (ma 25), .ref (ma 26), .ref (ma 27), .ref (ma 28), .ref (ma 29), .ref (ma 30), .ref (ma 31), .ref (ma 32), .ref (ma 33), .ref (ma 34), .ref (ma 35), .ref (ma 36), .ref (ma 37), .ref (ma 38), .ref (ma 39), .ref (ma 40), .ref (ma 41), .long 0])), ((ma 1), .inl (cy 1, 4, .inl fw))] s.heap.size) q := fun q h => Or.inr h
  have hS : va_S (va_A [((ma 0), .inr (10, [.int 0, .ref (ma 1), .ref (ma 2), .ref (ma 3), .ref (ma 4), .ref (ma 5), .int 0, .int 0, .int 0, .int 0, .int 0, .long 0, .int 0, .int 0, .int 0, .int (-1), .ref (ma 16), .ref (ma 17), .ref (ma 18), .ref (ma 19), .ref (ma 20), .ref (ma 21), .ref (ma 22), .ref (ma 23), .ref (ma 24), .ref (ma 25), .ref (ma 26), .ref (ma 27), .ref (ma 28), .ref (ma 29), .ref (ma 30), .ref (ma 31), .ref (ma 32), .ref (ma 33), .ref (ma 34), .ref (ma 35), .ref (ma 36), .ref (ma 37), .ref (ma 38), .ref (ma 39), .ref (ma 40), .ref (ma 41), .long 0])), ((ma 1), .inl (cy 1, 4, .inl fw))] s.heap.size) s.heap s.heap [] := va_S.rf
  generalize va_A [((ma 0), .inr (10, [.int 0, .ref (ma 1), .ref (ma 2), .ref (ma 3), .ref (ma 4), .ref (ma 5), .int 0, .int 0, .int 0, .int 0, .int 0, .long 0, .int 0, .int 0, .int 0, .int (-1), .ref (ma 16), .ref (ma 17), .ref (ma 18), .ref (ma 19), .ref (ma 20), .ref (ma 21), .ref (ma 22), .ref (ma 23), .ref (ma 24), .ref (ma 25), .ref (ma 26), .ref (ma 27), .ref (ma 28), .ref (ma 29), .ref (ma 30), .ref (ma 31), .ref (ma 32), .ref (ma 33), .ref (ma 34), .ref (ma 35), .ref (ma 36), .ref (ma 37), .ref (ma 38), .ref (ma 39), .ref (ma 40), .ref (ma 41), .long 0])), ((ma 1), .inl (cy 1, 4, .inl fw))] s.heap.size = A at hD hA hS ⊢
  have hP : va_P D vwCl [((ma 0), .inr (10, [.int 0, .ref (ma 1), .ref (ma 2), .ref (ma 3), .ref (ma 4), .ref (ma 5), .int 0, .int 0, .int 0, .int 0, .int 0, .long 0, .int 0, .int 0, .int 0, .int (-1), .ref (ma 16), .ref (ma 17), .ref (ma 18), .ref (ma 19), .ref (ma 20), .ref (ma 21), .ref (ma 22), .ref (ma 23), .ref (ma 24), .ref (ma 25), .ref (ma 26), .ref (ma 27), .ref (ma 28), .ref (ma 29), .ref (ma 30), .ref (ma 31), .ref (ma 32), .ref (ma 33), .ref (ma 34), .ref (ma 35), .ref (ma 36), .ref (ma 37), .ref (ma 38), .ref (ma 39), .ref (ma 40), .ref (ma 41), .long 0])), ((ma 1), .inl (cy 1, 4, .inl fw))] s.heap := hP
  have hl : lv_has ls 5 [(0, .ref (ma 0)), (1, .int n0), (2, .int n1), (3, .long n2)] := hl
  refine lv_aload_n hx hb dX10_write_0 rfl (lv_at hl 0 rfl) ?_
  refine lv_iconst (v := 0) hx hb dX10_write_1 (by decide) ?_
  refine va_put (D := D) (ci := 10) (v := .int 0) (ty := tyX10 0) (C := RX10) (T := TX10) (N := 43) hx hb hts lay_X10 tyX10 tyX10_ok nmX10 hown hK.1 hP hD hS 0 rfl rfl 0 (by decide) (hts _ fl_X10_111) (fun _ h9 => h9) rfl (tyX10_ok 0 (by decide)) rfl rfl (Nat.le_of_ble_eq_true rfl) dX10_write_2 (fun H locs hP hD hS => ?_)
  have hP : va_P D vwCl [((ma 0), .inr (10, [.int 0, .ref (ma 1), .ref (ma 2), .ref (ma 3), .ref (ma 4), .ref (ma 5), .int 0, .int 0, .int 0, .int 0, .int 0, .long 0, .int 0, .int 0, .int 0, .int (-1), .ref (ma 16), .ref (ma 17), .ref (ma 18), .ref (ma 19), .ref (ma 20), .ref (ma 21), .ref (ma 22), .ref (ma 23), .ref (ma 24), .ref (ma 25), .ref (ma 26), .ref (ma 27), .ref (ma 28), .ref (ma 29), .ref (ma 30), .ref (ma 31), .ref (ma 32), .ref (ma 33), .ref (ma 34), .ref (ma 35), .ref (ma 36), .ref (ma 37), .ref (ma 38), .ref (ma 39), .ref (ma 40), .ref (ma 41), .long 0])), ((ma 1), .inl (cy 1, 4, .inl fw))] H := hP
  have hD : va_D A [((ma 0), .inr (10, [.int 0, .ref (ma 1), .ref (ma 2), .ref (ma 3), .ref (ma 4), .ref (ma 5), .int 0, .int 0, .int 0, .int 0, .int 0, .long 0, .int 0, .int 0, .int 0, .int (-1), .ref (ma 16), .ref (ma 17), .ref (ma 18), .ref (ma 19), .ref (ma 20), .ref (ma 21), .ref (ma 22), .ref (ma 23), .ref (ma 24), .ref (ma 25), .ref (ma 26), .ref (ma 27), .ref (ma 28), .ref (ma 29), .ref (ma 30), .ref (ma 31), .ref (ma 32), .ref (ma 33), .ref (ma 34), .ref (ma 35), .ref (ma 36), .ref (ma 37), .ref (ma 38), .ref (ma 39), .ref (ma 40), .ref (ma 41), .long 0])), ((ma 1), .inl (cy 1, 4, .inl fw))] := hD
  refine lv_iload_n hx hb dX10_write_5 rfl (lv_at hl 1 rfl) ?_
  refine pu_calli (runS (As := [.int n0]) (rest := []) ⟨hx, hb, hml, hown, hts⟩ (m_isSlot l D cy n0 ) sS_X10_120 hK (hP.sub (ws' := []) [] rfl) ⟨Nat.le_of_ble_eq_true rfl, Nat.le_of_ble_eq_true rfl⟩ rfl hl.1 rfl (Nat.le_of_ble_eq_true rfl) dX10_write_6 ⟨Nat.le_of_ble_eq_true rfl, Nat.le_of_ble_eq_true rfl⟩) (fun r_1 hr_1 => ?_)
  rcases hr_1 with hr_1_0 | hr_1_1
  · skip
    obtain ⟨er_1, hr_1_0_f0, hr_1_0_f1⟩ := hr_1_0
    have hr_1_0_f0 : 0 ≤ n0.toInt := hr_1_0_f0
    have hr_1_0_f1 : n0.toInt ≤ 3 := hr_1_0_f1
    subst er_1
    refine W.eq (g2 := F0 m 9 ls [.int 1]) rfl ?_
    refine lv_if_ne (tgt := 15) hx hb dX10_write_9 (by decide) (fun _ => ?_) (fun c_2 => absurd c_2 (by decide))
    refine lv_aload_n hx hb dX10_write_15 rfl (lv_at hl 0 rfl) ?_
    refine va_get (D := D) (ci := 10) (v := .ref (ma 1)) (C := RX10) (T := TX10) (N := 43) hx hb hts lay_X10 hown hK.1 hP 0 rfl rfl 1 (by decide) (hts _ fl_X10_7) (fun _ h9 => h9) rfl dX10_write_16 ?_
    refine lv_iload_n hx hb dX10_write_19 rfl (lv_at hl 1 rfl) ?_
    refine va_iald hx hb hK.1 hP 1 1 rfl rfl (i := n0) (vp_in_iff.mpr ⟨by omega, by omega⟩) dX10_write_20 ?_
    refine lv_topi (fun z_3 ez_3 => ?_)
    have ez_3 : z_3 = -1 := ez_3.trans (hw _ (clamp_lt (by omega) (by omega)))
    subst ez_3
    refine lv_iconst (v := (-1)) hx hb dX10_write_21 (by decide) ?_
    refine lv_icmp_ne (tgt := 28) hx hb dX10_write_22 (by decide) (fun c_4 => absurd rfl c_4) (fun _ => ?_)
    refine lv_bipush (v := (-6)) hx hb dX10_write_25 (by decide) ?_
    exact ret_i hx hb hr hlocks ⟨⟨hS.1, hS.2.1⟩, (), ⟨_, rfl, (Or.inl ⟨rfl, (by omega), (by omega)⟩)⟩, hP.sub [] rfl, hD.sub [] (by decide) rfl⟩ hS.2.2 (Nat.le_of_ble_eq_true rfl) (Nat.le_of_ble_eq_true rfl) dX10_write_27
  · skip
    obtain ⟨er_1, hr_1_1_f0⟩ := hr_1_1
    have hr_1_1_f0 : (n0.toInt < 0 ∨ 3 < n0.toInt) := hr_1_1_f0
    subst er_1
    refine W.eq (g2 := F0 m 9 ls [.int 0]) rfl ?_
    refine lv_if_ne (tgt := 15) hx hb dX10_write_9 (by decide) (fun c_5 => absurd rfl c_5) (fun _ => ?_)
    refine lv_bipush (v := (-2)) hx hb dX10_write_12 (by decide) ?_
    exact ret_i hx hb hr hlocks ⟨⟨hS.1, hS.2.1⟩, (), ⟨_, rfl, (Or.inr ⟨rfl, (by omega)⟩)⟩, hP.sub [] rfl, hD.sub [] (by decide) rfl⟩ hS.2.2 (Nat.le_of_ble_eq_true rfl) (Nat.le_of_ble_eq_true rfl) dX10_write_14
set_option maxHeartbeats 4000000 in
set_option maxRecDepth 100000 in
theorem f_X9_paste (l : Launch) (D : va_G) (cy : Nat → ClassId) (xa : Nat → Nat) (n0 : Int32) (n1 : Int32) (n2 : Int32) (n3 : Int32) (n4 : Int32) : MM l yX9_paste cX9_paste 8 (some .int) 1 0 0 D cy [.ref (xa 0), .int n0, .int n1, .int n2, .int n3, .int n4] (fun H => va_P D vwCl [((xa 0), .inr (9, [.ref (xa 1), .ref (xa 2), .ref (xa 3), .ref (xa 4), .ref (xa 5), .ref (xa 6), .ref (xa 7), .ref (xa 8), .ref (xa 9), .int 0, .ref (xa 11), .null, .int 0, .int (-1)])), ((xa 8), .inl (cy 4, 4, .inr (.inr (.inr (.inr (fun _ => none))))))] H) (PuI (fun r => (r = (-6) ∧ 0 ≤ n0.toInt ∧ n0.toInt ≤ 3 ∧ 0 ≤ n2.toInt ∧ n2.toInt ≤ 3) ∨ (r = (-2) ∧ (n0.toInt < 0 ∨ 3 < n0.toInt ∨ n2.toInt < 0 ∨ 3 < n2.toInt)))) noF := by
  refine MM.of (by decide) (Nat.le_of_ble_eq_true rfl) ?_
  intro p e s m below meth c C hP ls hl
  obtain ⟨hx, hb, hr, hml, hown, hts, hlocks, hK, hnm⟩ := C
  have hP : va_P D vwCl [((xa 0), .inr (9, [.ref (xa 1), .ref (xa 2), .ref (xa 3), .ref (xa 4), .ref (xa 5), .ref (xa 6), .ref (xa 7), .ref (xa 8), .ref (xa 9), .int 0, .ref (xa 11), .null, .int 0, .int (-1)])), ((xa 8), .inl (cy 4, 4, .inr (.inr (.inr (.inr (fun _ => none))))))] s.heap := hP
  have hl : lv_has ls 8 [(0, .ref (xa 0)), (1, .int n0), (2, .int n1), (3, .int n2), (4, .int n3), (5, .int n4)] := hl
  refine lv_iload_n hx hb dX9_paste_0 rfl (lv_at hl 1 rfl) ?_
  refine pu_calli (runS (As := [.int n0]) (rest := []) ⟨hx, hb, hml, hown, hts⟩ (f_isSlot l D cy n0 ) sS_X9_312 hK (hP.sub (ws' := []) [] rfl) ⟨Nat.le_of_ble_eq_true rfl, Nat.le_of_ble_eq_true rfl⟩ rfl hl.1 rfl (Nat.le_of_ble_eq_true rfl) dX9_paste_1 ⟨Nat.le_of_ble_eq_true rfl, Nat.le_of_ble_eq_true rfl⟩) (fun r_1 hr_1 => ?_)
  rcases hr_1 with hr_1_0 | hr_1_1
  · skip
    obtain ⟨er_1, hr_1_0_f0, hr_1_0_f1⟩ := hr_1_0
    have hr_1_0_f0 : 0 ≤ n0.toInt := hr_1_0_f0
    have hr_1_0_f1 : n0.toInt ≤ 3 := hr_1_0_f1
    subst er_1
    refine W.eq (g2 := F0 m 4 ls [.int 1]) rfl ?_
    refine lv_if_eq (tgt := 14) hx hb dX9_paste_4 (by decide) (fun c_2 => absurd c_2 (by decide)) (fun _ => ?_)
    refine lv_iload_n hx hb dX9_paste_7 rfl (lv_at hl 3 rfl) ?_
    refine pu_calli (runS (As := [.int n2]) (rest := []) ⟨hx, hb, hml, hown, hts⟩ (f_isSlot l D cy n2 ) sS_X9_312 hK (hP.sub (ws' := []) [] rfl) ⟨Nat.le_of_ble_eq_true rfl, Nat.le_of_ble_eq_true rfl⟩ rfl hl.1 rfl (Nat.le_of_ble_eq_true rfl) dX9_paste_8 ⟨Nat.le_of_ble_eq_true rfl, Nat.le_of_ble_eq_true rfl⟩) (fun r_3 hr_3 => ?_)
    rcases hr_3 with hr_3_0 | hr_3_1
    · skip
      obtain ⟨er_3, hr_3_0_f0, hr_3_0_f1⟩ := hr_3_0
      have hr_3_0_f0 : 0 ≤ n2.toInt := hr_3_0_f0
      have hr_3_0_f1 : n2.toInt ≤ 3 := hr_3_0_f1
      subst er_3
      refine W.eq (g2 := F0 m 11 ls [.int 1]) rfl ?_
      refine lv_if_ne (tgt := 17) hx hb dX9_paste_11 (by decide) (fun _ => ?_) (fun c_4 => absurd c_4 (by decide))
      refine lv_aload_n hx hb dX9_paste_17 rfl (lv_at hl 0 rfl) ?_
      refine va_get (D := D) (ci := 9) (v := .ref (xa 8)) (C := RX9) (T := TX9) (N := 14) hx hb hts lay_X9 hown hK.1 hP 0 rfl rfl 7 (by decide) (hts _ fl_X9_54) (fun _ h9 => h9) rfl dX9_paste_18 ?_
      refine lv_iload_n hx hb dX9_paste_21 rfl (lv_at hl 1 rfl) ?_
      refine va_aldq (C := RX6) hx hb hK.1 hP 1 4 rfl rfl (i := n0) (vp_in_iff.mpr ⟨by omega, by omega⟩) dX9_paste_22 ?_
      refine W.eq (g2 := F0 m 23 ls [.null]) rfl ?_
      refine lv_astoreN (lv' := [(6, .null), (0, .ref (xa 0)), (1, .int n0), (2, .int n1), (3, .int n2), (4, .int n3), (5, .int n4)]) hx hb dX9_paste_23 hl (by decide) rfl (fun ls hl => ?_)
      refine lv_aload_n hx hb dX9_paste_25 rfl (lv_at hl 1 rfl) ?_
      refine va_get (D := D) (ci := 9) (v := .ref (xa 8)) (C := RX9) (T := TX9) (N := 14) hx hb hts lay_X9 hown hK.1 hP 0 rfl rfl 7 (by decide) (hts _ fl_X9_54) (fun _ h9 => h9) rfl dX9_paste_26 ?_
      refine lv_iload_n hx hb dX9_paste_29 rfl (lv_at hl 4 rfl) ?_
      refine va_aldq (C := RX6) hx hb hK.1 hP 1 4 rfl rfl (i := n2) (vp_in_iff.mpr ⟨by omega, by omega⟩) dX9_paste_30 ?_
      refine W.eq (g2 := F0 m 31 ls [.null]) rfl ?_
      refine lv_astoreN (lv' := [(7, .null), (6, .null), (0, .ref (xa 0)), (1, .int n0), (2, .int n1), (3, .int n2), (4, .int n3), (5, .int n4)]) hx hb dX9_paste_31 hl (by decide) rfl (fun ls hl => ?_)
      refine lv_aloadN hx hb dX9_paste_33 (lv_at hl 1 rfl) ?_
      refine lv_ifnullN (tgt := 43) hx hb dX9_paste_35 (by decide) ?_
      refine lv_bipush (v := (-6)) hx hb dX9_paste_43 (by decide) ?_
      exact ret_i hx hb hr hlocks ⟨rfl, _, rfl, (Or.inl ⟨rfl, (by omega), (by omega), (by omega), (by omega)⟩)⟩ (fun _ h => absurd h List.not_mem_nil) (Nat.le_refl _) (Nat.le_refl _) dX9_paste_45
    · skip
      obtain ⟨er_3, hr_3_1_f0⟩ := hr_3_1
      have hr_3_1_f0 : (n2.toInt < 0 ∨ 3 < n2.toInt) := hr_3_1_f0
      subst er_3
      refine W.eq (g2 := F0 m 11 ls [.int 0]) rfl ?_
      refine lv_if_ne (tgt := 17) hx hb dX9_paste_11 (by decide) (fun c_5 => absurd rfl c_5) (fun _ => ?_)
      refine lv_bipush (v := (-2)) hx hb dX9_paste_14 (by decide) ?_
      exact ret_i hx hb hr hlocks ⟨rfl, _, rfl, (Or.inr ⟨rfl, (by omega)⟩)⟩ (fun _ h => absurd h List.not_mem_nil) (Nat.le_refl _) (Nat.le_refl _) dX9_paste_16
  · skip
    obtain ⟨er_1, hr_1_1_f0⟩ := hr_1_1
    have hr_1_1_f0 : (n0.toInt < 0 ∨ 3 < n0.toInt) := hr_1_1_f0
    subst er_1
    refine W.eq (g2 := F0 m 4 ls [.int 0]) rfl ?_
    refine lv_if_eq (tgt := 14) hx hb dX9_paste_4 (by decide) (fun _ => ?_) (fun c_6 => absurd (by decide) c_6)
    refine lv_bipush (v := (-2)) hx hb dX9_paste_14 (by decide) ?_
    exact ret_i hx hb hr hlocks ⟨rfl, _, rfl, (Or.inr ⟨rfl, (by omega)⟩)⟩ (fun _ h => absurd h List.not_mem_nil) (Nat.le_refl _) (Nat.le_refl _) dX9_paste_16
set_option maxHeartbeats 4000000 in
set_option maxRecDepth 100000 in
theorem g_X10_paste (l : Launch) (D : va_G) (cy : Nat → ClassId) (ma : Nat → Nat) (fw : Nat → Int32) (n0 : Int32) (n1 : Int32) (n2 : Int32) (n3 : Int32) (n4 : Int32) (hw : ∀ k : Nat, k < 4 → fw k = -1) (sz : Nat) : MM l yX10_paste cX10_paste 7 (some .int) 2 0 0 D cy [.ref (ma 0), .int n0, .int n1, .int n2, .int n3, .int n4] (PW D [((ma 0), .inr (10, [.int 0, .ref (ma 1), .ref (ma 2), .ref (ma 3), .ref (ma 4), .ref (ma 5), .int 0, .int 0, .int 0, .int 0, .int 0, .long 0, .int 0, .int 0, .int 0, .int (-1), .ref (ma 16), .ref (ma 17), .ref (ma 18), .ref (ma 19), .ref (ma 20), .ref (ma 21), .ref (ma 22), .ref (ma 23), .ref (ma 24), .ref (ma 25), .ref (ma 26), .ref (ma 27), .ref (ma 28), .ref (ma 29), .ref (ma 30), .ref (ma 31), .ref (ma 32), .ref (ma 33), .ref (ma 34), .ref (ma 35), .ref (ma 36), .ref (ma 37), .ref (ma 38), .ref (ma 39), .ref (ma 40), .ref (ma 41), .long 0])), ((ma 1), .inl (cy 1, 4, .inl fw))] sz) (QW D (va_A [((ma 0), .inr (10, [.int 0, .ref (ma 1), .ref (ma 2), .ref (ma 3), .ref (ma 4), .ref (ma 5), .int 0, .int 0, .int 0, .int 0, .int 0, .long 0, .int 0, .int 0, .int 0, .int (-1), .ref (ma 16), .ref (ma 17), .ref (ma 18), .ref (ma 19), .ref (ma 20), .ref (ma 21), .ref (ma 22), .ref (ma 23), .ref (ma 24), .ref (ma 25), .ref (ma 26), .ref (ma 27), .ref (ma 28), .ref (ma 29), .ref (ma 30), .ref (ma 31), .ref (ma 32), .ref (ma 33), .ref (ma 34), .ref (ma 35), .ref (ma 36), .ref (ma 37), .ref (ma 38), .ref (ma 39), .ref (ma 40), .ref (ma 41), .long 0])), ((ma 1), .inl (cy 1, 4, .inl fw))] sz) (S := Unit) (fun v u => (∃ r : Int32, v = some (.int r) ∧ ((r = (-6) ∧ 0 ≤ n0.toInt ∧ n0.toInt ≤ 3 ∧ 0 ≤ n2.toInt ∧ n2.toInt ≤ 3) ∨ (r = (-2) ∧ (n0.toInt < 0 ∨ 3 < n0.toInt ∨ n2.toInt < 0 ∨ 3 < n2.toInt))))) (fun u => [])) (va_A [((ma 0), .inr (10, [.int 0, .ref (ma 1), .ref (ma 2), .ref (ma 3), .ref (ma 4), .ref (ma 5), .int 0, .int 0, .int 0, .int 0, .int 0, .long 0, .int 0, .int 0, .int 0, .int (-1), .ref (ma 16), .ref (ma 17), .ref (ma 18), .ref (ma 19), .ref (ma 20), .ref (ma 21), .ref (ma 22), .ref (ma 23), .ref (ma 24), .ref (ma 25), .ref (ma 26), .ref (ma 27), .ref (ma 28), .ref (ma 29), .ref (ma 30), .ref (ma 31), .ref (ma 32), .ref (ma 33), .ref (ma 34), .ref (ma 35), .ref (ma 36), .ref (ma 37), .ref (ma 38), .ref (ma 39), .ref (ma 40), .ref (ma 41), .long 0])), ((ma 1), .inl (cy 1, 4, .inl fw))] sz) := by
  refine MM.of (by decide) (Nat.le_of_ble_eq_true rfl) ?_
  intro p e s m below meth c C hPW ls hl
  obtain ⟨hx, hb, hr, hml, hown, hts, hlocks, hK, hnm⟩ := C
  obtain ⟨rfl, hP, hD0⟩ := hPW
  have hD := hD0.self (sz := s.heap.size)
  have hA : ∀ q : Nat, s.heap.size ≤ q → (va_A [((ma 0), .inr (10, [.int 0, .ref (ma 1), .ref (ma 2), .ref (ma 3), .ref (ma 4), .ref (ma 5), .int 0, .int 0, .int 0, .int 0, .int 0, .long 0, .int 0, .int 0, .int 0, .int (-1), .ref (ma 16), .ref (ma 17), .ref (ma 18), .ref (ma 19), .ref (ma 20), .ref (ma 21), .ref (ma 22), .ref (ma 23), .ref (ma 24), .ref (ma 25), .ref (ma 26), .ref (ma 27), .ref (ma 28), .ref (ma 29), .ref (ma 30), .ref (ma 31), .ref (ma 32), .ref (ma 33), .ref (ma 34), .ref (ma 35), .ref (ma 36), .ref (ma 37), .ref (ma 38), .ref (ma 39), .ref (ma 40), .ref (ma 41), .long 0])), ((ma 1), .inl (cy 1, 4, .inl fw))] s.heap.size) q := fun q h => Or.inr h
  have hS : va_S (va_A [((ma 0), .inr (10, [.int 0, .ref (ma 1), .ref (ma 2), .ref (ma 3), .ref (ma 4), .ref (ma 5), .int 0, .int 0, .int 0, .int 0, .int 0, .long 0, .int 0, .int 0, .int 0, .int (-1), .ref (ma 16), .ref (ma 17), .ref (ma 18), .ref (ma 19), .ref (ma 20), .ref (ma 21), .ref (ma 22), .ref (ma 23), .ref (ma 24), .ref (ma 25), .ref (ma 26), .ref (ma 27), .ref (ma 28), .ref (ma 29), .ref (ma 30), .ref (ma 31), .ref (ma 32), .ref (ma 33), .ref (ma 34), .ref (ma 35), .ref (ma 36), .ref (ma 37), .ref (ma 38), .ref (ma 39), .ref (ma 40), .ref (ma 41), .long 0])), ((ma 1), .inl (cy 1, 4, .inl fw))] s.heap.size) s.heap s.heap [] := va_S.rf
  generalize va_A [((ma 0), .inr (10, [.int 0, .ref (ma 1), .ref (ma 2), .ref (ma 3), .ref (ma 4), .ref (ma 5), .int 0, .int 0, .int 0, .int 0, .int 0, .long 0, .int 0, .int 0, .int 0, .int (-1), .ref (ma 16), .ref (ma 17), .ref (ma 18), .ref (ma 19), .ref (ma 20), .ref (ma 21), .ref (ma 22), .ref (ma 23), .ref (ma 24), .ref (ma 25), .ref (ma 26), .ref (ma 27), .ref (ma 28), .ref (ma 29), .ref (ma 30), .ref (ma 31), .ref (ma 32), .ref (ma 33), .ref (ma 34), .ref (ma 35), .ref (ma 36), .ref (ma 37), .ref (ma 38), .ref (ma 39), .ref (ma 40), .ref (ma 41), .long 0])), ((ma 1), .inl (cy 1, 4, .inl fw))] s.heap.size = A at hD hA hS ⊢
  have hP : va_P D vwCl [((ma 0), .inr (10, [.int 0, .ref (ma 1), .ref (ma 2), .ref (ma 3), .ref (ma 4), .ref (ma 5), .int 0, .int 0, .int 0, .int 0, .int 0, .long 0, .int 0, .int 0, .int 0, .int (-1), .ref (ma 16), .ref (ma 17), .ref (ma 18), .ref (ma 19), .ref (ma 20), .ref (ma 21), .ref (ma 22), .ref (ma 23), .ref (ma 24), .ref (ma 25), .ref (ma 26), .ref (ma 27), .ref (ma 28), .ref (ma 29), .ref (ma 30), .ref (ma 31), .ref (ma 32), .ref (ma 33), .ref (ma 34), .ref (ma 35), .ref (ma 36), .ref (ma 37), .ref (ma 38), .ref (ma 39), .ref (ma 40), .ref (ma 41), .long 0])), ((ma 1), .inl (cy 1, 4, .inl fw))] s.heap := hP
  have hl : lv_has ls 7 [(0, .ref (ma 0)), (1, .int n0), (2, .int n1), (3, .int n2), (4, .int n3), (5, .int n4)] := hl
  refine lv_aload_n hx hb dX10_paste_0 rfl (lv_at hl 0 rfl) ?_
  refine lv_iconst (v := 0) hx hb dX10_paste_1 (by decide) ?_
  refine va_put (D := D) (ci := 10) (v := .int 0) (ty := tyX10 0) (C := RX10) (T := TX10) (N := 43) hx hb hts lay_X10 tyX10 tyX10_ok nmX10 hown hK.1 hP hD hS 0 rfl rfl 0 (by decide) (hts _ fl_X10_111) (fun _ h9 => h9) rfl (tyX10_ok 0 (by decide)) rfl rfl (Nat.le_of_ble_eq_true rfl) dX10_paste_2 (fun H locs hP hD hS => ?_)
  have hP : va_P D vwCl [((ma 0), .inr (10, [.int 0, .ref (ma 1), .ref (ma 2), .ref (ma 3), .ref (ma 4), .ref (ma 5), .int 0, .int 0, .int 0, .int 0, .int 0, .long 0, .int 0, .int 0, .int 0, .int (-1), .ref (ma 16), .ref (ma 17), .ref (ma 18), .ref (ma 19), .ref (ma 20), .ref (ma 21), .ref (ma 22), .ref (ma 23), .ref (ma 24), .ref (ma 25), .ref (ma 26), .ref (ma 27), .ref (ma 28), .ref (ma 29), .ref (ma 30), .ref (ma 31), .ref (ma 32), .ref (ma 33), .ref (ma 34), .ref (ma 35), .ref (ma 36), .ref (ma 37), .ref (ma 38), .ref (ma 39), .ref (ma 40), .ref (ma 41), .long 0])), ((ma 1), .inl (cy 1, 4, .inl fw))] H := hP
  have hD : va_D A [((ma 0), .inr (10, [.int 0, .ref (ma 1), .ref (ma 2), .ref (ma 3), .ref (ma 4), .ref (ma 5), .int 0, .int 0, .int 0, .int 0, .int 0, .long 0, .int 0, .int 0, .int 0, .int (-1), .ref (ma 16), .ref (ma 17), .ref (ma 18), .ref (ma 19), .ref (ma 20), .ref (ma 21), .ref (ma 22), .ref (ma 23), .ref (ma 24), .ref (ma 25), .ref (ma 26), .ref (ma 27), .ref (ma 28), .ref (ma 29), .ref (ma 30), .ref (ma 31), .ref (ma 32), .ref (ma 33), .ref (ma 34), .ref (ma 35), .ref (ma 36), .ref (ma 37), .ref (ma 38), .ref (ma 39), .ref (ma 40), .ref (ma 41), .long 0])), ((ma 1), .inl (cy 1, 4, .inl fw))] := hD
  refine lv_iload_n hx hb dX10_paste_5 rfl (lv_at hl 1 rfl) ?_
  refine pu_calli (runS (As := [.int n0]) (rest := []) ⟨hx, hb, hml, hown, hts⟩ (m_isSlot l D cy n0 ) sS_X10_120 hK (hP.sub (ws' := []) [] rfl) ⟨Nat.le_of_ble_eq_true rfl, Nat.le_of_ble_eq_true rfl⟩ rfl hl.1 rfl (Nat.le_of_ble_eq_true rfl) dX10_paste_6 ⟨Nat.le_of_ble_eq_true rfl, Nat.le_of_ble_eq_true rfl⟩) (fun r_1 hr_1 => ?_)
  rcases hr_1 with hr_1_0 | hr_1_1
  · skip
    obtain ⟨er_1, hr_1_0_f0, hr_1_0_f1⟩ := hr_1_0
    have hr_1_0_f0 : 0 ≤ n0.toInt := hr_1_0_f0
    have hr_1_0_f1 : n0.toInt ≤ 3 := hr_1_0_f1
    subst er_1
    refine W.eq (g2 := F0 m 9 ls [.int 1]) rfl ?_
    refine lv_if_eq (tgt := 19) hx hb dX10_paste_9 (by decide) (fun c_2 => absurd c_2 (by decide)) (fun _ => ?_)
    refine lv_iload_n hx hb dX10_paste_12 rfl (lv_at hl 3 rfl) ?_
    refine pu_calli (runS (As := [.int n2]) (rest := []) ⟨hx, hb, hml, hown, hts⟩ (m_isSlot l D cy n2 ) sS_X10_120 hK (hP.sub (ws' := []) [] rfl) ⟨Nat.le_of_ble_eq_true rfl, Nat.le_of_ble_eq_true rfl⟩ rfl hl.1 rfl (Nat.le_of_ble_eq_true rfl) dX10_paste_13 ⟨Nat.le_of_ble_eq_true rfl, Nat.le_of_ble_eq_true rfl⟩) (fun r_3 hr_3 => ?_)
    rcases hr_3 with hr_3_0 | hr_3_1
    · skip
      obtain ⟨er_3, hr_3_0_f0, hr_3_0_f1⟩ := hr_3_0
      have hr_3_0_f0 : 0 ≤ n2.toInt := hr_3_0_f0
      have hr_3_0_f1 : n2.toInt ≤ 3 := hr_3_0_f1
      subst er_3
      refine W.eq (g2 := F0 m 16 ls [.int 1]) rfl ?_
      refine lv_if_ne (tgt := 22) hx hb dX10_paste_16 (by decide) (fun _ => ?_) (fun c_4 => absurd c_4 (by decide))
      refine lv_aload_n hx hb dX10_paste_22 rfl (lv_at hl 0 rfl) ?_
      refine va_get (D := D) (ci := 10) (v := .ref (ma 1)) (C := RX10) (T := TX10) (N := 43) hx hb hts lay_X10 hown hK.1 hP 0 rfl rfl 1 (by decide) (hts _ fl_X10_7) (fun _ h9 => h9) rfl dX10_paste_23 ?_
      refine lv_iload_n hx hb dX10_paste_26 rfl (lv_at hl 1 rfl) ?_
      refine va_iald hx hb hK.1 hP 1 1 rfl rfl (i := n0) (vp_in_iff.mpr ⟨by omega, by omega⟩) dX10_paste_27 ?_
      refine lv_topi (fun z_5 ez_5 => ?_)
      have ez_5 : z_5 = -1 := ez_5.trans (hw _ (clamp_lt (by omega) (by omega)))
      subst ez_5
      refine lv_iconst (v := (-1)) hx hb dX10_paste_28 (by decide) ?_
      refine lv_icmp_eq (tgt := 42) hx hb dX10_paste_29 (by decide) (fun _ => ?_) (fun c_6 => absurd (by decide) c_6)
      refine lv_bipush (v := (-6)) hx hb dX10_paste_42 (by decide) ?_
      exact ret_i hx hb hr hlocks ⟨⟨hS.1, hS.2.1⟩, (), ⟨_, rfl, (Or.inl ⟨rfl, (by omega), (by omega), (by omega), (by omega)⟩)⟩, hP.sub [] rfl, hD.sub [] (by decide) rfl⟩ hS.2.2 (Nat.le_of_ble_eq_true rfl) (Nat.le_of_ble_eq_true rfl) dX10_paste_44
    · skip
      obtain ⟨er_3, hr_3_1_f0⟩ := hr_3_1
      have hr_3_1_f0 : (n2.toInt < 0 ∨ 3 < n2.toInt) := hr_3_1_f0
      subst er_3
      refine W.eq (g2 := F0 m 16 ls [.int 0]) rfl ?_
      refine lv_if_ne (tgt := 22) hx hb dX10_paste_16 (by decide) (fun c_7 => absurd rfl c_7) (fun _ => ?_)
      refine lv_bipush (v := (-2)) hx hb dX10_paste_19 (by decide) ?_
      exact ret_i hx hb hr hlocks ⟨⟨hS.1, hS.2.1⟩, (), ⟨_, rfl, (Or.inr ⟨rfl, (by omega)⟩)⟩, hP.sub [] rfl, hD.sub [] (by decide) rfl⟩ hS.2.2 (Nat.le_of_ble_eq_true rfl) (Nat.le_of_ble_eq_true rfl) dX10_paste_21
  · skip
    obtain ⟨er_1, hr_1_1_f0⟩ := hr_1_1
    have hr_1_1_f0 : (n0.toInt < 0 ∨ 3 < n0.toInt) := hr_1_1_f0
    subst er_1
    refine W.eq (g2 := F0 m 9 ls [.int 0]) rfl ?_
    refine lv_if_eq (tgt := 19) hx hb dX10_paste_9 (by decide) (fun _ => ?_) (fun c_8 => absurd (by decide) c_8)
    refine lv_bipush (v := (-2)) hx hb dX10_paste_19 (by decide) ?_
    exact ret_i hx hb hr hlocks ⟨⟨hS.1, hS.2.1⟩, (), ⟨_, rfl, (Or.inr ⟨rfl, (by omega)⟩)⟩, hP.sub [] rfl, hD.sub [] (by decide) rfl⟩ hS.2.2 (Nat.le_of_ble_eq_true rfl) (Nat.le_of_ble_eq_true rfl) dX10_paste_21
set_option maxHeartbeats 4000000 in
set_option maxRecDepth 100000 in
theorem i_X6 (l : Launch) (D : va_G) (cy : Nat → ClassId) (h0 : Nat) (w : Int32) (n : Int32) (hn0 : 0 ≤ n.toInt) (hn1 : n.toInt ≤ 60) (sz : Nat) : MM l yX6_init cX6_init 3 none 1 1 60 D cy [.ref h0, .int w, .int n] (PW D [(h0, .inr (6, [.int 0, .null]))] sz) (QW D (va_A [(h0, .inr (6, [.int 0, .null]))] sz) (S := (Nat → Nat) × (Nat → Nat → Int32) × (Nat → Nat → Int64) × (Nat → Int32)) (fun v u => v = none) (fun u => [(h0, .inr (6, [.int w, .ref (u.1 0)]))])) (va_A [(h0, .inr (6, [.int 0, .null]))] sz) := by
  refine MM.of (by decide) (Nat.le_of_ble_eq_true rfl) ?_
  intro p e s m below meth c C hPW ls hl
  obtain ⟨hx, hb, hr, hml, hown, hts, hlocks, hK, hnm⟩ := C
  obtain ⟨rfl, hP, hD0⟩ := hPW
  have hD := hD0.self (sz := s.heap.size)
  have hA : ∀ q : Nat, s.heap.size ≤ q → (va_A [(h0, .inr (6, [.int 0, .null]))] s.heap.size) q := fun q h => Or.inr h
  have hS : va_S (va_A [(h0, .inr (6, [.int 0, .null]))] s.heap.size) s.heap s.heap [] := va_S.rf
  generalize va_A [(h0, .inr (6, [.int 0, .null]))] s.heap.size = A at hD hA hS ⊢
  have hP : va_P D vwCl [(h0, .inr (6, [.int 0, .null]))] s.heap := hP
  have hl : lv_has ls 3 [(0, .ref h0), (1, .int w), (2, .int n)] := hl
  refine lv_aload_n hx hb dX6_init_0 rfl (lv_at hl 0 rfl) ?_
  refine W.objInit hx hb hown (hts _ ml_X6_1) (hts _ im_objectInit) (hts _ co_objectInit) rfl (by rw [hml]; exact hl.1) rfl dX6_init_1 (Nat.le_of_ble_eq_true rfl) (Nat.le_of_ble_eq_true rfl) ?_
  refine W.eq (g2 := F0 m 4 ls []) rfl ?_
  refine lv_aload_n hx hb dX6_init_4 rfl (lv_at hl 0 rfl) ?_
  refine lv_iload_n hx hb dX6_init_5 rfl (lv_at hl 1 rfl) ?_
  refine va_putF (D := D) (ci := 6) (v := .int w) (ty := tyX6 0) (C := RX6) (T := TX6) (N := 2) hx hb hts lay_X6 tyX6 tyX6_ok nmX6 hown hK.1 hP hD hS 0 rfl rfl 0 (by decide) (hts _ fl_X6_7) (fun _ h9 => h9) rfl hnm rfl (tyX6_ok 0 (by decide)) rfl rfl (Nat.le_of_ble_eq_true rfl) dX6_init_6 (fun H locs hP hD hS => ?_)
  have hP : va_P D vwCl [(h0, .inr (6, [.int w, .null]))] H := hP
  have hD : va_D A [(h0, .inr (6, [.int w, .null]))] := hD
  refine lv_aload_n hx hb dX6_init_9 rfl (lv_at hl 0 rfl) ?_
  refine lv_iconst (v := 0) hx hb dX6_init_10 (by decide) ?_
  refine lv_iload_n hx hb dX6_init_11 rfl (lv_at hl 2 rfl) ?_
  refine va_mmax hx hb (by rw [hml]; exact hl.1.symm) hown (hts _ ml_X6_13) (hts _ st_math_max) (hts _ ini_J9) (hts _ co_math_max) (Nat.le_of_ble_eq_true rfl) (Nat.le_of_ble_eq_true rfl) (Nat.le_of_ble_eq_true rfl) (Nat.le_of_ble_eq_true rfl) dX6_init_12 ?_
  refine lv_topi (fun z_1 ez_1 => ?_)
  have ez_1 : n = z_1 := (ez_1.trans (max0_t hn0)).symm
  subst ez_1
  have hneg : ¬ n < 0 := fun h => by have h2 := (fa_lt _ _).mp h; have e0 : (0 : Int32).toInt = 0 := rfl; omega
  refine newp (atype := .long) (ty := .long) (cA := cy 2) (a0 := (n.toInt.toNat, .inr (.inl (fun _ => 0)))) 2 hx hb hts ac_long rfl hK rfl (fun _ h9 => h9) hP hD hS hA (fun _ => rfl) hneg rfl (show n.toInt.toNat * 8 ≤ 536870912 by omega) (Nat.le_of_ble_eq_true rfl) (show 0 + n.toInt.toNat ≤ 60 by omega) dX6_init_15 (fun q_2 H hP hD hS => ?_)
  have hP : va_P D vwCl [(h0, .inr (6, [.int w, .null])), (q_2, .inl (cy 2, n.toInt.toNat, .inr (.inl (fun _ => 0))))] H := hP
  have hD : va_D A [(h0, .inr (6, [.int w, .null])), (q_2, .inl (cy 2, n.toInt.toNat, .inr (.inl (fun _ => 0))))] := hD
  refine W.widen (k := 1) (n := 60) (by omega) (by omega) ?_
  refine va_putF (D := D) (ci := 6) (v := .ref q_2) (ty := tyX6 1) (C := RX6) (T := TX6) (N := 2) hx hb hts lay_X6 tyX6 tyX6_ok nmX6 hown hK.1 hP hD hS 0 rfl rfl 1 (by decide) (hts _ fl_X6_19) (fun _ h9 => h9) rfl hnm rfl (tyX6_ok 1 (by decide)) rfl rfl (Nat.le_of_ble_eq_true rfl) dX6_init_17 (fun H locs hP hD hS => ?_)
  have hP : va_P D vwCl [(h0, .inr (6, [.int w, .ref q_2])), (q_2, .inl (cy 2, n.toInt.toNat, .inr (.inl (fun _ => 0))))] H := hP
  have hD : va_D A [(h0, .inr (6, [.int w, .ref q_2])), (q_2, .inl (cy 2, n.toInt.toNat, .inr (.inl (fun _ => 0))))] := hD
  exact ret_v hx hb hr hlocks ⟨⟨hS.1, hS.2.1⟩, ((fun k => match k with | 0 => q_2 | _ => 0), (fun _ => (fun _ => 0)), (fun _ => (fun _ => 0)), (fun _ => 0)), rfl, hP.sub [0] rfl, hD.sub [0] (by decide) rfl⟩ hS.2.2 (Nat.le_of_ble_eq_true rfl) (Nat.le_of_ble_eq_true rfl) dX6_init_20
set_option maxHeartbeats 4000000 in
set_option maxRecDepth 100000 in
theorem f_X9_row (l : Launch) (D : va_G) (cy : Nat → ClassId) (xa : Nat → Nat) (n0 : Int32) (n1 : Int32) (n2 : Int32) (sz : Nat) : MM l yX9_row cX9_row 4 (some .int) 2 2 62 D cy [.ref (xa 0), .int n0, .int n1, .int n2] (PW D [((xa 0), .inr (9, [.ref (xa 1), .ref (xa 2), .ref (xa 3), .ref (xa 4), .ref (xa 5), .ref (xa 6), .ref (xa 7), .ref (xa 8), .ref (xa 9), .int 0, .ref (xa 11), .null, .int 0, .int (-1)])), ((xa 8), .inl (cy 4, 4, .inr (.inr (.inr (.inr (fun _ => none))))))] sz) (QW D (va_A [((xa 0), .inr (9, [.ref (xa 1), .ref (xa 2), .ref (xa 3), .ref (xa 4), .ref (xa 5), .ref (xa 6), .ref (xa 7), .ref (xa 8), .ref (xa 9), .int 0, .ref (xa 11), .null, .int 0, .int (-1)])), ((xa 8), .inl (cy 4, 4, .inr (.inr (.inr (.inr (fun _ => none))))))] sz) (S := Unit) (fun v u => (∃ r : Int32, v = some (.int r) ∧ ((r = (-2) ∧ (n0.toInt < 0 ∨ 3 < n0.toInt ∨ n1.toInt < 0 ∨ 3 < n1.toInt ∨ 60 < n2.toInt)) ∨ (r = (-3) ∧ 0 ≤ n0.toInt ∧ n0.toInt ≤ 3 ∧ 0 ≤ n1.toInt ∧ n1.toInt ≤ 3 ∧ n2.toInt < 0) ∨ (r = 0 ∧ 0 ≤ n0.toInt ∧ n0.toInt ≤ 3 ∧ 0 ≤ n1.toInt ∧ n1.toInt ≤ 3 ∧ 0 ≤ n2.toInt ∧ n2.toInt ≤ 60)))) (fun u => [])) (va_A [((xa 0), .inr (9, [.ref (xa 1), .ref (xa 2), .ref (xa 3), .ref (xa 4), .ref (xa 5), .ref (xa 6), .ref (xa 7), .ref (xa 8), .ref (xa 9), .int 0, .ref (xa 11), .null, .int 0, .int (-1)])), ((xa 8), .inl (cy 4, 4, .inr (.inr (.inr (.inr (fun _ => none))))))] sz) := by
  refine MM.of (by decide) (Nat.le_of_ble_eq_true rfl) ?_
  intro p e s m below meth c C hPW ls hl
  obtain ⟨hx, hb, hr, hml, hown, hts, hlocks, hK, hnm⟩ := C
  obtain ⟨rfl, hP, hD0⟩ := hPW
  have hD := hD0.self (sz := s.heap.size)
  have hA : ∀ q : Nat, s.heap.size ≤ q → (va_A [((xa 0), .inr (9, [.ref (xa 1), .ref (xa 2), .ref (xa 3), .ref (xa 4), .ref (xa 5), .ref (xa 6), .ref (xa 7), .ref (xa 8), .ref (xa 9), .int 0, .ref (xa 11), .null, .int 0, .int (-1)])), ((xa 8), .inl (cy 4, 4, .inr (.inr (.inr (.inr (fun _ => none))))))] s.heap.size) q := fun q h => Or.inr h
  have hS : va_S (va_A [((xa 0), .inr (9, [.ref (xa 1), .ref (xa 2), .ref (xa 3), .ref (xa 4), .ref (xa 5), .ref (xa 6), .ref (xa 7), .ref (xa 8), .ref (xa 9), .int 0, .ref (xa 11), .null, .int 0, .int (-1)])), ((xa 8), .inl (cy 4, 4, .inr (.inr (.inr (.inr (fun _ => none))))))] s.heap.size) s.heap s.heap [] := va_S.rf
  generalize va_A [((xa 0), .inr (9, [.ref (xa 1), .ref (xa 2), .ref (xa 3), .ref (xa 4), .ref (xa 5), .ref (xa 6), .ref (xa 7), .ref (xa 8), .ref (xa 9), .int 0, .ref (xa 11), .null, .int 0, .int (-1)])), ((xa 8), .inl (cy 4, 4, .inr (.inr (.inr (.inr (fun _ => none))))))] s.heap.size = A at hD hA hS ⊢
  have hP : va_P D vwCl [((xa 0), .inr (9, [.ref (xa 1), .ref (xa 2), .ref (xa 3), .ref (xa 4), .ref (xa 5), .ref (xa 6), .ref (xa 7), .ref (xa 8), .ref (xa 9), .int 0, .ref (xa 11), .null, .int 0, .int (-1)])), ((xa 8), .inl (cy 4, 4, .inr (.inr (.inr (.inr (fun _ => none))))))] s.heap := hP
  have hl : lv_has ls 4 [(0, .ref (xa 0)), (1, .int n0), (2, .int n1), (3, .int n2)] := hl
  refine lv_iload_n hx hb dX9_row_0 rfl (lv_at hl 1 rfl) ?_
  refine pu_calli (runS (As := [.int n0]) (rest := []) ⟨hx, hb, hml, hown, hts⟩ (f_isSlot l D cy n0 ) sS_X9_312 hK (hP.sub (ws' := []) [] rfl) ⟨Nat.le_of_ble_eq_true rfl, Nat.le_of_ble_eq_true rfl⟩ rfl hl.1 rfl (Nat.le_of_ble_eq_true rfl) dX9_row_1 ⟨Nat.le_of_ble_eq_true rfl, Nat.le_of_ble_eq_true rfl⟩) (fun r_1 hr_1 => ?_)
  rcases hr_1 with hr_1_0 | hr_1_1
  · skip
    obtain ⟨er_1, hr_1_0_f0, hr_1_0_f1⟩ := hr_1_0
    have hr_1_0_f0 : 0 ≤ n0.toInt := hr_1_0_f0
    have hr_1_0_f1 : n0.toInt ≤ 3 := hr_1_0_f1
    subst er_1
    refine W.eq (g2 := F0 m 4 ls [.int 1]) rfl ?_
    refine lv_if_eq (tgt := 22) hx hb dX9_row_4 (by decide) (fun c_2 => absurd c_2 (by decide)) (fun _ => ?_)
    refine lv_iload_n hx hb dX9_row_7 rfl (lv_at hl 2 rfl) ?_
    refine lv_if_lt (tgt := 22) hx hb dX9_row_8 (by decide) (fun c_3 => ?_) (fun c_3 => ?_)
    · skip
      have tc_3 : n1.toInt < 0 := (fa_lt _ _).mp c_3
      refine lv_bipush (v := (-2)) hx hb dX9_row_22 (by decide) ?_
      exact ret_i hx hb hr hlocks ⟨⟨hS.1, hS.2.1⟩, (), ⟨_, rfl, (Or.inl ⟨rfl, (by omega)⟩)⟩, hP.sub [] rfl, hD.sub [] (by decide) rfl⟩ hS.2.2 (Nat.le_of_ble_eq_true rfl) (Nat.le_of_ble_eq_true rfl) dX9_row_24
    · skip
      have tc_3 : ¬ n1.toInt < 0 := fun h => c_3 ((fa_lt _ _).mpr h)
      refine lv_iload_n hx hb dX9_row_11 rfl (lv_at hl 2 rfl) ?_
      refine lv_iconst (v := 3) hx hb dX9_row_12 (by decide) ?_
      refine lv_icmp_gt (tgt := 22) hx hb dX9_row_13 (by decide) (fun c_4 => ?_) (fun c_4 => ?_)
      · skip
        have tc_4 : 3 < n1.toInt := (fa_lt _ _).mp c_4
        refine lv_bipush (v := (-2)) hx hb dX9_row_22 (by decide) ?_
        exact ret_i hx hb hr hlocks ⟨⟨hS.1, hS.2.1⟩, (), ⟨_, rfl, (Or.inl ⟨rfl, (by omega)⟩)⟩, hP.sub [] rfl, hD.sub [] (by decide) rfl⟩ hS.2.2 (Nat.le_of_ble_eq_true rfl) (Nat.le_of_ble_eq_true rfl) dX9_row_24
      · skip
        have tc_4 : ¬ 3 < n1.toInt := fun h => c_4 ((fa_lt _ _).mpr h)
        refine lv_iload_n hx hb dX9_row_16 rfl (lv_at hl 3 rfl) ?_
        refine lv_bipush (v := 60) hx hb dX9_row_17 (by decide) ?_
        refine lv_icmp_le (tgt := 25) hx hb dX9_row_19 (by decide) (fun c_5 => ?_) (fun c_5 => ?_)
        · skip
          have tc_5 : n2.toInt ≤ 60 := (fa_le _ _).mp c_5
          refine lv_iload_n hx hb dX9_row_25 rfl (lv_at hl 3 rfl) ?_
          refine lv_if_ge (tgt := 32) hx hb dX9_row_26 (by decide) (fun c_6 => ?_) (fun c_6 => ?_)
          · skip
            have tc_6 : 0 ≤ n2.toInt := (fa_le _ _).mp c_6
            refine lv_aload_n hx hb dX9_row_32 rfl (lv_at hl 0 rfl) ?_
            refine va_get (D := D) (ci := 9) (v := .ref (xa 8)) (C := RX9) (T := TX9) (N := 14) hx hb hts lay_X9 hown hK.1 hP 0 rfl rfl 7 (by decide) (hts _ fl_X9_54) (fun _ h9 => h9) rfl dX9_row_33 ?_
            refine lv_iload_n hx hb dX9_row_36 rfl (lv_at hl 1 rfl) ?_
            refine va_new (ci := 6) (fs := [.int 0, .null]) (C := RX6) (T := TX6) (N := 2) hx hb hts lay_X6 tyX6 tyX6_ok hown (hts _ cl_X9_52) (hts _ ins_X6) (hts _ ini_X6) hK.1 hP hD hS hA rfl born_X6 (Nat.le_of_ble_eq_true rfl) (Nat.le_of_ble_eq_true rfl) dX9_row_37 (fun q_7 H hP hD hS => ?_)
            have hP : va_P D vwCl [((xa 0), .inr (9, [.ref (xa 1), .ref (xa 2), .ref (xa 3), .ref (xa 4), .ref (xa 5), .ref (xa 6), .ref (xa 7), .ref (xa 8), .ref (xa 9), .int 0, .ref (xa 11), .null, .int 0, .int (-1)])), ((xa 8), .inl (cy 4, 4, .inr (.inr (.inr (.inr (fun _ => none)))))), (q_7, .inr (6, [.int 0, .null]))] H := hP
            have hD : va_D A [((xa 0), .inr (9, [.ref (xa 1), .ref (xa 2), .ref (xa 3), .ref (xa 4), .ref (xa 5), .ref (xa 6), .ref (xa 7), .ref (xa 8), .ref (xa 9), .int 0, .ref (xa 11), .null, .int 0, .int (-1)])), ((xa 8), .inl (cy 4, 4, .inr (.inr (.inr (.inr (fun _ => none)))))), (q_7, .inr (6, [.int 0, .null]))] := hD
            refine lv_dup hx hb dX9_row_40 rfl ?_
            refine lv_iload_n hx hb dX9_row_41 rfl (lv_at hl 2 rfl) ?_
            refine lv_iload_n hx hb dX9_row_42 rfl (lv_at hl 3 rfl) ?_
            refine fw_call (wc := [(q_7, .inr (6, [.int 0, .null]))]) (wr := [((xa 0), .inr (9, [.ref (xa 1), .ref (xa 2), .ref (xa 3), .ref (xa 4), .ref (xa 5), .ref (xa 6), .ref (xa 7), .ref (xa 8), .ref (xa 9), .int 0, .ref (xa 11), .null, .int 0, .int (-1)])), ((xa 8), .inl (cy 4, 4, .inr (.inr (.inr (.inr (fun _ => none))))))]) (runI (As := [.int n1, .int n2]) (rest := [.ref q_7, .int n0, .ref (xa 8)]) ⟨hx, hb, hml, hown, hts⟩ (i_X6 l D cy q_7 n1 n2 (by first | assumption | omega | decide) (by first | assumption | omega | decide) H.size) sI_X9_364 hK (PW.of hP hD [2] (by decide) rfl rfl) ⟨Nat.le_of_ble_eq_true rfl, Nat.le_of_ble_eq_true rfl⟩ rfl hl.1 rfl (Nat.le_of_ble_eq_true rfl) dX9_row_43 ⟨Nat.le_of_ble_eq_true rfl, Nat.le_of_ble_eq_true rfl⟩) hP hD hS hA [2] [0, 1] rfl rfl (by decide) (by decide) (fun v u_8 H locs hv hP hD hS => ?_)
            have hP : va_P D vwCl [((xa 0), .inr (9, [.ref (xa 1), .ref (xa 2), .ref (xa 3), .ref (xa 4), .ref (xa 5), .ref (xa 6), .ref (xa 7), .ref (xa 8), .ref (xa 9), .int 0, .ref (xa 11), .null, .int 0, .int (-1)])), ((xa 8), .inl (cy 4, 4, .inr (.inr (.inr (.inr (fun _ => none)))))), (q_7, .inr (6, [.int n1, .ref (u_8.1 0)]))] H := hP
            have hD : va_D A [((xa 0), .inr (9, [.ref (xa 1), .ref (xa 2), .ref (xa 3), .ref (xa 4), .ref (xa 5), .ref (xa 6), .ref (xa 7), .ref (xa 8), .ref (xa 9), .int 0, .ref (xa 11), .null, .int 0, .int (-1)])), ((xa 8), .inl (cy 4, 4, .inr (.inr (.inr (.inr (fun _ => none)))))), (q_7, .inr (6, [.int n1, .ref (u_8.1 0)]))] := hD
            subst hv
            refine W.eq (g2 := F0 m 46 ls [.ref q_7, .int n0, .ref (xa 8)]) rfl ?_
            refine va_astq hx hb hK.1 hP hD hS 1 4 2 6 (r := (RX6, TX6, 2)) rfl rfl rfl rfl (i := n0) (vp_in_iff.mpr ⟨by omega, by omega⟩) dX9_row_46 (fun H locs hP hD hS => ?_)
            have hP : va_P D vwCl [((xa 0), .inr (9, [.ref (xa 1), .ref (xa 2), .ref (xa 3), .ref (xa 4), .ref (xa 5), .ref (xa 6), .ref (xa 7), .ref (xa 8), .ref (xa 9), .int 0, .ref (xa 11), .null, .int 0, .int (-1)])), ((xa 8), .inl (cy 4, 4, .inr (.inr (.inr (.inr (va_up (fun _ => none) (n0).toNatClampNeg (some q_7))))))), (q_7, .inr (6, [.int n1, .ref (u_8.1 0)]))] H := hP
            have hD : va_D A [((xa 0), .inr (9, [.ref (xa 1), .ref (xa 2), .ref (xa 3), .ref (xa 4), .ref (xa 5), .ref (xa 6), .ref (xa 7), .ref (xa 8), .ref (xa 9), .int 0, .ref (xa 11), .null, .int 0, .int (-1)])), ((xa 8), .inl (cy 4, 4, .inr (.inr (.inr (.inr (va_up (fun _ => none) (n0).toNatClampNeg (some q_7))))))), (q_7, .inr (6, [.int n1, .ref (u_8.1 0)]))] := hD
            refine lv_iconst (v := 0) hx hb dX9_row_47 (by decide) ?_
            exact ret_i hx hb hr hlocks ⟨⟨hS.1, hS.2.1⟩, (), ⟨_, rfl, (Or.inr (Or.inr ⟨rfl, (by omega), (by omega), (by omega), (by omega), (by omega), (by omega)⟩))⟩, hP.sub [] rfl, hD.sub [] (by decide) rfl⟩ hS.2.2 (Nat.le_of_ble_eq_true rfl) (Nat.le_of_ble_eq_true rfl) dX9_row_48
          · skip
            have tc_6 : ¬ 0 ≤ n2.toInt := fun h => c_6 ((fa_le _ _).mpr h)
            refine lv_bipush (v := (-3)) hx hb dX9_row_29 (by decide) ?_
            exact ret_i hx hb hr hlocks ⟨⟨hS.1, hS.2.1⟩, (), ⟨_, rfl, (Or.inr (Or.inl ⟨rfl, (by omega), (by omega), (by omega), (by omega), (by omega)⟩))⟩, hP.sub [] rfl, hD.sub [] (by decide) rfl⟩ hS.2.2 (Nat.le_of_ble_eq_true rfl) (Nat.le_of_ble_eq_true rfl) dX9_row_31
        · skip
          have tc_5 : ¬ n2.toInt ≤ 60 := fun h => c_5 ((fa_le _ _).mpr h)
          refine lv_bipush (v := (-2)) hx hb dX9_row_22 (by decide) ?_
          exact ret_i hx hb hr hlocks ⟨⟨hS.1, hS.2.1⟩, (), ⟨_, rfl, (Or.inl ⟨rfl, (by omega)⟩)⟩, hP.sub [] rfl, hD.sub [] (by decide) rfl⟩ hS.2.2 (Nat.le_of_ble_eq_true rfl) (Nat.le_of_ble_eq_true rfl) dX9_row_24
  · skip
    obtain ⟨er_1, hr_1_1_f0⟩ := hr_1_1
    have hr_1_1_f0 : (n0.toInt < 0 ∨ 3 < n0.toInt) := hr_1_1_f0
    subst er_1
    refine W.eq (g2 := F0 m 4 ls [.int 0]) rfl ?_
    refine lv_if_eq (tgt := 22) hx hb dX9_row_4 (by decide) (fun _ => ?_) (fun c_9 => absurd (by decide) c_9)
    refine lv_bipush (v := (-2)) hx hb dX9_row_22 (by decide) ?_
    exact ret_i hx hb hr hlocks ⟨⟨hS.1, hS.2.1⟩, (), ⟨_, rfl, (Or.inl ⟨rfl, (by omega)⟩)⟩, hP.sub [] rfl, hD.sub [] (by decide) rfl⟩ hS.2.2 (Nat.le_of_ble_eq_true rfl) (Nat.le_of_ble_eq_true rfl) dX9_row_24
set_option maxHeartbeats 4000000 in
set_option maxRecDepth 100000 in
theorem i_X1 (l : Launch) (D : va_G) (cy : Nat → ClassId) (h0 : Nat) (a : Nat) (sz : Nat) : MM l yX1_init cX1_init 3 none 1 0 0 D cy [.ref h0, .ref a, .null] (PW D [(h0, .inr (1, [.null, .null]))] sz) (QW D (va_A [(h0, .inr (1, [.null, .null]))] sz) (S := Unit) (fun v u => v = none) (fun u => [(h0, .inr (1, [.ref a, .null]))])) (va_A [(h0, .inr (1, [.null, .null]))] sz) := by
  refine MM.of (by decide) (Nat.le_of_ble_eq_true rfl) ?_
  intro p e s m below meth c C hPW ls hl
  obtain ⟨hx, hb, hr, hml, hown, hts, hlocks, hK, hnm⟩ := C
  obtain ⟨rfl, hP, hD0⟩ := hPW
  have hD := hD0.self (sz := s.heap.size)
  have hA : ∀ q : Nat, s.heap.size ≤ q → (va_A [(h0, .inr (1, [.null, .null]))] s.heap.size) q := fun q h => Or.inr h
  have hS : va_S (va_A [(h0, .inr (1, [.null, .null]))] s.heap.size) s.heap s.heap [] := va_S.rf
  generalize va_A [(h0, .inr (1, [.null, .null]))] s.heap.size = A at hD hA hS ⊢
  have hP : va_P D vwCl [(h0, .inr (1, [.null, .null]))] s.heap := hP
  have hl : lv_has ls 3 [(0, .ref h0), (1, .ref a), (2, .null)] := hl
  refine lv_aload_n hx hb dX1_init_0 rfl (lv_at hl 0 rfl) ?_
  refine W.objInit hx hb hown (hts _ ml_X1_1) (hts _ im_objectInit) (hts _ co_objectInit) rfl (by rw [hml]; exact hl.1) rfl dX1_init_1 (Nat.le_of_ble_eq_true rfl) (Nat.le_of_ble_eq_true rfl) ?_
  refine W.eq (g2 := F0 m 4 ls []) rfl ?_
  refine lv_aload_n hx hb dX1_init_4 rfl (lv_at hl 0 rfl) ?_
  refine lv_aload_n hx hb dX1_init_5 rfl (lv_at hl 1 rfl) ?_
  refine va_putF (D := D) (ci := 1) (v := .ref a) (ty := tyX1 0) (C := RX1) (T := TX1) (N := 2) hx hb hts lay_X1 tyX1 tyX1_ok nmX1 hown hK.1 hP hD hS 0 rfl rfl 0 (by decide) (hts _ fl_X1_7) (fun _ h9 => h9) rfl hnm rfl (tyX1_ok 0 (by decide)) rfl rfl (Nat.le_of_ble_eq_true rfl) dX1_init_6 (fun H locs hP hD hS => ?_)
  have hP : va_P D vwCl [(h0, .inr (1, [.ref a, .null]))] H := hP
  have hD : va_D A [(h0, .inr (1, [.ref a, .null]))] := hD
  refine lv_aload_n hx hb dX1_init_9 rfl (lv_at hl 0 rfl) ?_
  refine lv_aload_nN hx hb dX1_init_10 rfl (lv_at hl 2 rfl) ?_
  refine va_putF (D := D) (ci := 1) (v := .null) (ty := tyX1 1) (C := RX1) (T := TX1) (N := 2) hx hb hts lay_X1 tyX1 tyX1_ok nmX1 hown hK.1 hP hD hS 0 rfl rfl 1 (by decide) (hts _ fl_X1_13) (fun _ h9 => h9) rfl hnm rfl (tyX1_ok 1 (by decide)) rfl rfl (Nat.le_of_ble_eq_true rfl) dX1_init_11 (fun H locs hP hD hS => ?_)
  have hP : va_P D vwCl [(h0, .inr (1, [.ref a, .null]))] H := hP
  have hD : va_D A [(h0, .inr (1, [.ref a, .null]))] := hD
  exact ret_v hx hb hr hlocks ⟨⟨hS.1, hS.2.1⟩, (), rfl, hP.sub [0] rfl, hD.sub [0] (by decide) rfl⟩ hS.2.2 (Nat.le_of_ble_eq_true rfl) (Nat.le_of_ble_eq_true rfl) dX1_init_14
set_option maxHeartbeats 4000000 in
set_option maxRecDepth 100000 in
theorem f_X9_keep (l : Launch) (D : va_G) (cy : Nat → ClassId) (xa : Nat → Nat) (n0 : Int32) (sz : Nat) : MM l yX9_keep cX9_keep 2 (some .int) 2 1 2 D cy [.ref (xa 0), .int n0] (PW D [((xa 0), .inr (9, [.ref (xa 1), .ref (xa 2), .ref (xa 3), .ref (xa 4), .ref (xa 5), .ref (xa 6), .ref (xa 7), .ref (xa 8), .ref (xa 9), .int 0, .ref (xa 11), .null, .int 0, .int (-1)])), ((xa 9), .inl (cy 5, 3, .inr (.inr (.inr (.inr (fun _ => none))))))] sz) (QW D (va_A [((xa 0), .inr (9, [.ref (xa 1), .ref (xa 2), .ref (xa 3), .ref (xa 4), .ref (xa 5), .ref (xa 6), .ref (xa 7), .ref (xa 8), .ref (xa 9), .int 0, .ref (xa 11), .null, .int 0, .int (-1)])), ((xa 9), .inl (cy 5, 3, .inr (.inr (.inr (.inr (fun _ => none))))))] sz) (S := Unit) (fun v u => (∃ r : Int32, v = some (.int r) ∧ ((r = 0 ∧ 0 ≤ n0.toInt ∧ n0.toInt ≤ 2) ∨ (r = (-2) ∧ (n0.toInt < 0 ∨ 2 < n0.toInt))))) (fun u => [])) (va_A [((xa 0), .inr (9, [.ref (xa 1), .ref (xa 2), .ref (xa 3), .ref (xa 4), .ref (xa 5), .ref (xa 6), .ref (xa 7), .ref (xa 8), .ref (xa 9), .int 0, .ref (xa 11), .null, .int 0, .int (-1)])), ((xa 9), .inl (cy 5, 3, .inr (.inr (.inr (.inr (fun _ => none))))))] sz) := by
  refine MM.of (by decide) (Nat.le_of_ble_eq_true rfl) ?_
  intro p e s m below meth c C hPW ls hl
  obtain ⟨hx, hb, hr, hml, hown, hts, hlocks, hK, hnm⟩ := C
  obtain ⟨rfl, hP, hD0⟩ := hPW
  have hD := hD0.self (sz := s.heap.size)
  have hA : ∀ q : Nat, s.heap.size ≤ q → (va_A [((xa 0), .inr (9, [.ref (xa 1), .ref (xa 2), .ref (xa 3), .ref (xa 4), .ref (xa 5), .ref (xa 6), .ref (xa 7), .ref (xa 8), .ref (xa 9), .int 0, .ref (xa 11), .null, .int 0, .int (-1)])), ((xa 9), .inl (cy 5, 3, .inr (.inr (.inr (.inr (fun _ => none))))))] s.heap.size) q := fun q h => Or.inr h
  have hS : va_S (va_A [((xa 0), .inr (9, [.ref (xa 1), .ref (xa 2), .ref (xa 3), .ref (xa 4), .ref (xa 5), .ref (xa 6), .ref (xa 7), .ref (xa 8), .ref (xa 9), .int 0, .ref (xa 11), .null, .int 0, .int (-1)])), ((xa 9), .inl (cy 5, 3, .inr (.inr (.inr (.inr (fun _ => none))))))] s.heap.size) s.heap s.heap [] := va_S.rf
  generalize va_A [((xa 0), .inr (9, [.ref (xa 1), .ref (xa 2), .ref (xa 3), .ref (xa 4), .ref (xa 5), .ref (xa 6), .ref (xa 7), .ref (xa 8), .ref (xa 9), .int 0, .ref (xa 11), .null, .int 0, .int (-1)])), ((xa 9), .inl (cy 5, 3, .inr (.inr (.inr (.inr (fun _ => none))))))] s.heap.size = A at hD hA hS ⊢
  have hP : va_P D vwCl [((xa 0), .inr (9, [.ref (xa 1), .ref (xa 2), .ref (xa 3), .ref (xa 4), .ref (xa 5), .ref (xa 6), .ref (xa 7), .ref (xa 8), .ref (xa 9), .int 0, .ref (xa 11), .null, .int 0, .int (-1)])), ((xa 9), .inl (cy 5, 3, .inr (.inr (.inr (.inr (fun _ => none))))))] s.heap := hP
  have hl : lv_has ls 2 [(0, .ref (xa 0)), (1, .int n0)] := hl
  refine lv_iload_n hx hb dX9_keep_0 rfl (lv_at hl 1 rfl) ?_
  refine lv_if_lt (tgt := 9) hx hb dX9_keep_1 (by decide) (fun c_1 => ?_) (fun c_1 => ?_)
  · skip
    have tc_1 : n0.toInt < 0 := (fa_lt _ _).mp c_1
    refine lv_bipush (v := (-2)) hx hb dX9_keep_9 (by decide) ?_
    exact ret_i hx hb hr hlocks ⟨⟨hS.1, hS.2.1⟩, (), ⟨_, rfl, (Or.inr ⟨rfl, (by omega)⟩)⟩, hP.sub [] rfl, hD.sub [] (by decide) rfl⟩ hS.2.2 (Nat.le_of_ble_eq_true rfl) (Nat.le_of_ble_eq_true rfl) dX9_keep_11
  · skip
    have tc_1 : ¬ n0.toInt < 0 := fun h => c_1 ((fa_lt _ _).mpr h)
    refine lv_iload_n hx hb dX9_keep_4 rfl (lv_at hl 1 rfl) ?_
    refine lv_iconst (v := 3) hx hb dX9_keep_5 (by decide) ?_
    refine lv_icmp_lt (tgt := 12) hx hb dX9_keep_6 (by decide) (fun c_2 => ?_) (fun c_2 => ?_)
    · skip
      have tc_2 : n0.toInt < 3 := (fa_lt _ _).mp c_2
      refine lv_aload_n hx hb dX9_keep_12 rfl (lv_at hl 0 rfl) ?_
      refine va_get (D := D) (ci := 9) (v := .ref (xa 9)) (C := RX9) (T := TX9) (N := 14) hx hb hts lay_X9 hown hK.1 hP 0 rfl rfl 8 (by decide) (hts _ fl_X9_60) (fun _ h9 => h9) rfl dX9_keep_13 ?_
      refine lv_iload_n hx hb dX9_keep_16 rfl (lv_at hl 1 rfl) ?_
      refine va_new (ci := 1) (fs := [.null, .null]) (C := RX1) (T := TX1) (N := 2) hx hb hts lay_X1 tyX1 tyX1_ok hown (hts _ cl_X9_58) (hts _ ins_X1) (hts _ ini_X1) hK.1 hP hD hS hA rfl born_X1 (Nat.le_of_ble_eq_true rfl) (Nat.le_of_ble_eq_true rfl) dX9_keep_17 (fun q_3 H hP hD hS => ?_)
      have hP : va_P D vwCl [((xa 0), .inr (9, [.ref (xa 1), .ref (xa 2), .ref (xa 3), .ref (xa 4), .ref (xa 5), .ref (xa 6), .ref (xa 7), .ref (xa 8), .ref (xa 9), .int 0, .ref (xa 11), .null, .int 0, .int (-1)])), ((xa 9), .inl (cy 5, 3, .inr (.inr (.inr (.inr (fun _ => none)))))), (q_3, .inr (1, [.null, .null]))] H := hP
      have hD : va_D A [((xa 0), .inr (9, [.ref (xa 1), .ref (xa 2), .ref (xa 3), .ref (xa 4), .ref (xa 5), .ref (xa 6), .ref (xa 7), .ref (xa 8), .ref (xa 9), .int 0, .ref (xa 11), .null, .int 0, .int (-1)])), ((xa 9), .inl (cy 5, 3, .inr (.inr (.inr (.inr (fun _ => none)))))), (q_3, .inr (1, [.null, .null]))] := hD
      refine lv_dup hx hb dX9_keep_20 rfl ?_
      refine lv_aload_n hx hb dX9_keep_21 rfl (lv_at hl 0 rfl) ?_
      refine va_get (D := D) (ci := 9) (v := .ref (xa 11)) (C := RX9) (T := TX9) (N := 14) hx hb hts lay_X9 hown hK.1 hP 0 rfl rfl 10 (by decide) (hts _ fl_X9_67) (fun _ h9 => h9) rfl dX9_keep_22 ?_
      refine lv_aload_n hx hb dX9_keep_25 rfl (lv_at hl 0 rfl) ?_
      refine va_get (D := D) (ci := 9) (v := .null) (C := RX9) (T := TX9) (N := 14) hx hb hts lay_X9 hown hK.1 hP 0 rfl rfl 11 (by decide) (hts _ fl_X9_93) (fun _ h9 => h9) rfl dX9_keep_26 ?_
      refine fw_call (wc := [(q_3, .inr (1, [.null, .null]))]) (wr := [((xa 0), .inr (9, [.ref (xa 1), .ref (xa 2), .ref (xa 3), .ref (xa 4), .ref (xa 5), .ref (xa 6), .ref (xa 7), .ref (xa 8), .ref (xa 9), .int 0, .ref (xa 11), .null, .int 0, .int (-1)])), ((xa 9), .inl (cy 5, 3, .inr (.inr (.inr (.inr (fun _ => none))))))]) (runI (As := [.ref (xa 11), .null]) (rest := [.ref q_3, .int n0, .ref (xa 9)]) ⟨hx, hb, hml, hown, hts⟩ (i_X1 l D cy q_3 (xa 11)  H.size) sI_X9_359 hK (PW.of hP hD [2] (by decide) rfl rfl) ⟨Nat.le_of_ble_eq_true rfl, Nat.le_of_ble_eq_true rfl⟩ rfl hl.1 rfl (Nat.le_of_ble_eq_true rfl) dX9_keep_29 ⟨Nat.le_of_ble_eq_true rfl, Nat.le_of_ble_eq_true rfl⟩) hP hD hS hA [2] [0, 1] rfl rfl (by decide) (by decide) (fun v u_4 H locs hv hP hD hS => ?_)
      have hP : va_P D vwCl [((xa 0), .inr (9, [.ref (xa 1), .ref (xa 2), .ref (xa 3), .ref (xa 4), .ref (xa 5), .ref (xa 6), .ref (xa 7), .ref (xa 8), .ref (xa 9), .int 0, .ref (xa 11), .null, .int 0, .int (-1)])), ((xa 9), .inl (cy 5, 3, .inr (.inr (.inr (.inr (fun _ => none)))))), (q_3, .inr (1, [.ref (xa 11), .null]))] H := hP
      have hD : va_D A [((xa 0), .inr (9, [.ref (xa 1), .ref (xa 2), .ref (xa 3), .ref (xa 4), .ref (xa 5), .ref (xa 6), .ref (xa 7), .ref (xa 8), .ref (xa 9), .int 0, .ref (xa 11), .null, .int 0, .int (-1)])), ((xa 9), .inl (cy 5, 3, .inr (.inr (.inr (.inr (fun _ => none)))))), (q_3, .inr (1, [.ref (xa 11), .null]))] := hD
      subst hv
      refine W.eq (g2 := F0 m 32 ls [.ref q_3, .int n0, .ref (xa 9)]) rfl ?_
      refine va_astq hx hb hK.1 hP hD hS 1 5 2 1 (r := (RX1, TX1, 2)) rfl rfl rfl rfl (i := n0) (vp_in_iff.mpr ⟨by omega, by omega⟩) dX9_keep_32 (fun H locs hP hD hS => ?_)
      have hP : va_P D vwCl [((xa 0), .inr (9, [.ref (xa 1), .ref (xa 2), .ref (xa 3), .ref (xa 4), .ref (xa 5), .ref (xa 6), .ref (xa 7), .ref (xa 8), .ref (xa 9), .int 0, .ref (xa 11), .null, .int 0, .int (-1)])), ((xa 9), .inl (cy 5, 3, .inr (.inr (.inr (.inr (va_up (fun _ => none) (n0).toNatClampNeg (some q_3))))))), (q_3, .inr (1, [.ref (xa 11), .null]))] H := hP
      have hD : va_D A [((xa 0), .inr (9, [.ref (xa 1), .ref (xa 2), .ref (xa 3), .ref (xa 4), .ref (xa 5), .ref (xa 6), .ref (xa 7), .ref (xa 8), .ref (xa 9), .int 0, .ref (xa 11), .null, .int 0, .int (-1)])), ((xa 9), .inl (cy 5, 3, .inr (.inr (.inr (.inr (va_up (fun _ => none) (n0).toNatClampNeg (some q_3))))))), (q_3, .inr (1, [.ref (xa 11), .null]))] := hD
      refine lv_iconst (v := 0) hx hb dX9_keep_33 (by decide) ?_
      exact ret_i hx hb hr hlocks ⟨⟨hS.1, hS.2.1⟩, (), ⟨_, rfl, (Or.inl ⟨rfl, (by omega), (by omega)⟩)⟩, hP.sub [] rfl, hD.sub [] (by decide) rfl⟩ hS.2.2 (Nat.le_of_ble_eq_true rfl) (Nat.le_of_ble_eq_true rfl) dX9_keep_34
    · skip
      have tc_2 : ¬ n0.toInt < 3 := fun h => c_2 ((fa_lt _ _).mpr h)
      refine lv_bipush (v := (-2)) hx hb dX9_keep_9 (by decide) ?_
      exact ret_i hx hb hr hlocks ⟨⟨hS.1, hS.2.1⟩, (), ⟨_, rfl, (Or.inr ⟨rfl, (by omega)⟩)⟩, hP.sub [] rfl, hD.sub [] (by decide) rfl⟩ hS.2.2 (Nat.le_of_ble_eq_true rfl) (Nat.le_of_ble_eq_true rfl) dX9_keep_11
