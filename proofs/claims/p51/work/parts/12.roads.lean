theorem dX5_hundredths_0 : decode cX5_hundredths 0 = .ok (.lload_n 0, 1) := by decide +kernel
theorem dX5_hundredths_1 : decode cX5_hundredths 1 = .ok (.iload_n 2, 1) := by decide +kernel
theorem dX5_hundredths_2 : decode cX5_hundredths 2 = .ok (.i2l, 1) := by decide +kernel
theorem dX5_hundredths_3 : decode cX5_hundredths 3 = .ok (.lmul, 1) := by decide +kernel
theorem dX5_hundredths_4 : decode cX5_hundredths 4 = .ok (.ldc2_w 96, 3) := by decide +kernel
theorem dX5_hundredths_7 : decode cX5_hundredths 7 = .ok (.ldiv, 1) := by decide +kernel
theorem dX5_hundredths_8 : decode cX5_hundredths 8 = .ok (.lreturn, 1) := by decide +kernel
theorem dX5_snowing_0 : decode cX5_snowing 0 = .ok (.lload_n 2, 1) := by decide +kernel
theorem dX5_snowing_1 : decode cX5_snowing 1 = .ok (.aload_n 0, 1) := by decide +kernel
theorem dX5_snowing_2 : decode cX5_snowing 2 = .ok (.iload_n 1, 1) := by decide +kernel
theorem dX5_snowing_3 : decode cX5_snowing 3 = .ok (.iconst 1, 1) := by decide +kernel
theorem dX5_snowing_4 : decode cX5_snowing 4 = .ok (.invokevirtual 92, 3) := by decide +kernel
theorem dX5_snowing_7 : decode cX5_snowing 7 = .ok (.invokestatic 59, 3) := by decide +kernel
theorem dX5_snowing_10 : decode cX5_snowing 10 = .ok (.lload 4, 2) := by decide +kernel
theorem dX5_snowing_12 : decode cX5_snowing 12 = .ok (.aload_n 0, 1) := by decide +kernel
theorem dX5_snowing_13 : decode cX5_snowing 13 = .ok (.iload_n 1, 1) := by decide +kernel
theorem dX5_snowing_14 : decode cX5_snowing 14 = .ok (.iconst 0, 1) := by decide +kernel
theorem dX5_snowing_15 : decode cX5_snowing 15 = .ok (.invokevirtual 92, 3) := by decide +kernel
theorem dX5_snowing_18 : decode cX5_snowing 18 = .ok (.invokestatic 59, 3) := by decide +kernel
theorem dX5_snowing_21 : decode cX5_snowing 21 = .ok (.ladd, 1) := by decide +kernel
theorem dX5_snowing_22 : decode cX5_snowing 22 = .ok (.lreturn, 1) := by decide +kernel
theorem dX5_partsOn_0 : decode cX5_partsOn 0 = .ok (.iload_n 1, 1) := by decide +kernel
theorem dX5_partsOn_1 : decode cX5_partsOn 1 = .ok (.ifCond .lt 18, 3) := by decide +kernel
theorem dX5_partsOn_19 : decode cX5_partsOn 19 = .ok (.lconst 0, 1) := by decide +kernel
theorem dX5_partsOn_20 : decode cX5_partsOn 20 = .ok (.lreturn, 1) := by decide +kernel
theorem dX5_partsOn_4 : decode cX5_partsOn 4 = .ok (.iload_n 1, 1) := by decide +kernel
theorem dX5_partsOn_5 : decode cX5_partsOn 5 = .ok (.bipush 61, 2) := by decide +kernel
theorem dX5_partsOn_7 : decode cX5_partsOn 7 = .ok (.if_icmp .ge 12, 3) := by decide +kernel
theorem dX5_partsOn_10 : decode cX5_partsOn 10 = .ok (.aload_n 0, 1) := by decide +kernel
theorem dX5_partsOn_11 : decode cX5_partsOn 11 = .ok (.getfield 11, 3) := by decide +kernel
theorem dX5_partsOn_14 : decode cX5_partsOn 14 = .ok (.iload_n 1, 1) := by decide +kernel
theorem dX5_partsOn_15 : decode cX5_partsOn 15 = .ok (.laload, 1) := by decide +kernel
theorem dX5_partsOn_16 : decode cX5_partsOn 16 = .ok (.goto 4, 3) := by decide +kernel
theorem dX5_partsOnTwo_0 : decode cX5_partsOnTwo 0 = .ok (.iload_n 1, 1) := by decide +kernel
theorem dX5_partsOnTwo_1 : decode cX5_partsOnTwo 1 = .ok (.ifCond .lt 23, 3) := by decide +kernel
theorem dX5_partsOnTwo_24 : decode cX5_partsOnTwo 24 = .ok (.iconst 0, 1) := by decide +kernel
theorem dX5_partsOnTwo_25 : decode cX5_partsOnTwo 25 = .ok (.istore_n 3, 1) := by decide +kernel
theorem dX5_partsOnTwo_26 : decode cX5_partsOnTwo 26 = .ok (.iload_n 3, 1) := by decide +kernel
theorem dX5_partsOnTwo_27 : decode cX5_partsOnTwo 27 = .ok (.ifCond .eq 17, 3) := by decide +kernel
theorem dX5_partsOnTwo_44 : decode cX5_partsOnTwo 44 = .ok (.lconst 0, 1) := by decide +kernel
theorem dX5_partsOnTwo_45 : decode cX5_partsOnTwo 45 = .ok (.lreturn, 1) := by decide +kernel
theorem dX5_partsOnTwo_4 : decode cX5_partsOnTwo 4 = .ok (.iload_n 1, 1) := by decide +kernel
theorem dX5_partsOnTwo_5 : decode cX5_partsOnTwo 5 = .ok (.bipush 61, 2) := by decide +kernel
theorem dX5_partsOnTwo_7 : decode cX5_partsOnTwo 7 = .ok (.if_icmp .ge 17, 3) := by decide +kernel
theorem dX5_partsOnTwo_10 : decode cX5_partsOnTwo 10 = .ok (.iload_n 2, 1) := by decide +kernel
theorem dX5_partsOnTwo_11 : decode cX5_partsOnTwo 11 = .ok (.ifCond .lt 13, 3) := by decide +kernel
theorem dX5_partsOnTwo_14 : decode cX5_partsOnTwo 14 = .ok (.iload_n 2, 1) := by decide +kernel
theorem dX5_partsOnTwo_15 : decode cX5_partsOnTwo 15 = .ok (.bipush 61, 2) := by decide +kernel
theorem dX5_partsOnTwo_17 : decode cX5_partsOnTwo 17 = .ok (.if_icmp .ge 7, 3) := by decide +kernel
theorem dX5_partsOnTwo_20 : decode cX5_partsOnTwo 20 = .ok (.iconst 1, 1) := by decide +kernel
theorem dX5_partsOnTwo_21 : decode cX5_partsOnTwo 21 = .ok (.goto 4, 3) := by decide +kernel
theorem dX5_partsOnTwo_30 : decode cX5_partsOnTwo 30 = .ok (.aload_n 0, 1) := by decide +kernel
theorem dX5_partsOnTwo_31 : decode cX5_partsOnTwo 31 = .ok (.getfield 15, 3) := by decide +kernel
theorem dX5_partsOnTwo_34 : decode cX5_partsOnTwo 34 = .ok (.iload_n 1, 1) := by decide +kernel
theorem dX5_partsOnTwo_35 : decode cX5_partsOnTwo 35 = .ok (.bipush 61, 2) := by decide +kernel
theorem dX5_partsOnTwo_37 : decode cX5_partsOnTwo 37 = .ok (.imul, 1) := by decide +kernel
theorem dX5_partsOnTwo_38 : decode cX5_partsOnTwo 38 = .ok (.iload_n 2, 1) := by decide +kernel
theorem dX5_partsOnTwo_39 : decode cX5_partsOnTwo 39 = .ok (.iadd, 1) := by decide +kernel
theorem dX5_partsOnTwo_40 : decode cX5_partsOnTwo 40 = .ok (.laload, 1) := by decide +kernel
theorem dX5_partsOnTwo_41 : decode cX5_partsOnTwo 41 = .ok (.goto 4, 3) := by decide +kernel
theorem dX5_partsOfWay_0 : decode cX5_partsOfWay 0 = .ok (.iload_n 1, 1) := by decide +kernel
theorem dX5_partsOfWay_1 : decode cX5_partsOfWay 1 = .ok (.ifCond .lt 25, 3) := by decide +kernel
theorem dX5_partsOfWay_26 : decode cX5_partsOfWay 26 = .ok (.lconst 0, 1) := by decide +kernel
theorem dX5_partsOfWay_27 : decode cX5_partsOfWay 27 = .ok (.lreturn, 1) := by decide +kernel
theorem dX5_partsOfWay_4 : decode cX5_partsOfWay 4 = .ok (.iload_n 1, 1) := by decide +kernel
theorem dX5_partsOfWay_5 : decode cX5_partsOfWay 5 = .ok (.bipush 64, 2) := by decide +kernel
theorem dX5_partsOfWay_7 : decode cX5_partsOfWay 7 = .ok (.if_icmp .ge 19, 3) := by decide +kernel
theorem dX5_partsOfWay_10 : decode cX5_partsOfWay 10 = .ok (.aload_n 0, 1) := by decide +kernel
theorem dX5_partsOfWay_11 : decode cX5_partsOfWay 11 = .ok (.getfield 24, 3) := by decide +kernel
theorem dX5_partsOfWay_14 : decode cX5_partsOfWay 14 = .ok (.iload_n 1, 1) := by decide +kernel
theorem dX5_partsOfWay_15 : decode cX5_partsOfWay 15 = .ok (.laload, 1) := by decide +kernel
theorem dX5_partsOfWay_16 : decode cX5_partsOfWay 16 = .ok (.aload_n 0, 1) := by decide +kernel
theorem dX5_partsOfWay_17 : decode cX5_partsOfWay 17 = .ok (.getfield 27, 3) := by decide +kernel
theorem dX5_partsOfWay_20 : decode cX5_partsOfWay 20 = .ok (.iload_n 1, 1) := by decide +kernel
theorem dX5_partsOfWay_21 : decode cX5_partsOfWay 21 = .ok (.laload, 1) := by decide +kernel
theorem dX5_partsOfWay_22 : decode cX5_partsOfWay 22 = .ok (.ladd, 1) := by decide +kernel
theorem dX5_partsOfWay_23 : decode cX5_partsOfWay 23 = .ok (.goto 4, 3) := by decide +kernel
theorem dX5_followOne_0 : decode cX5_followOne 0 = .ok (.aload_n 0, 1) := by decide +kernel
theorem dX5_followOne_1 : decode cX5_followOne 1 = .ok (.getfield 11, 3) := by decide +kernel
theorem dX5_followOne_4 : decode cX5_followOne 4 = .ok (.lconst 0, 1) := by decide +kernel
theorem dX5_followOne_5 : decode cX5_followOne 5 = .ok (.invokestatic 33, 3) := by decide +kernel
theorem dX5_followOne_8 : decode cX5_followOne 8 = .ok (.aload_n 1, 1) := by decide +kernel
theorem dX5_followOne_9 : decode cX5_followOne 9 = .ok (.iload_n 2, 1) := by decide +kernel
theorem dX5_followOne_10 : decode cX5_followOne 10 = .ok (.invokevirtual 39, 3) := by decide +kernel
theorem dX5_followOne_13 : decode cX5_followOne 13 = .ok (.ifCond .ne 4, 3) := by decide +kernel
theorem dX5_followOne_17 : decode cX5_followOne 17 = .ok (.lconst 0, 1) := by decide +kernel
theorem dX5_followOne_18 : decode cX5_followOne 18 = .ok (.lstore_n 3, 1) := by decide +kernel
theorem dX5_followOne_19 : decode cX5_followOne 19 = .ok (.ldc2_w 45, 3) := by decide +kernel
theorem dX5_followOne_22 : decode cX5_followOne 22 = .ok (.lstore 5, 2) := by decide +kernel
theorem dX5_followOne_24 : decode cX5_followOne 24 = .ok (.iconst 1, 1) := by decide +kernel
theorem dX5_followOne_25 : decode cX5_followOne 25 = .ok (.istore 7, 2) := by decide +kernel
theorem dX5_followOne_27 : decode cX5_followOne 27 = .ok (.iload 7, 2) := by decide +kernel
theorem dX5_followOne_29 : decode cX5_followOne 29 = .ok (.aload_n 1, 1) := by decide +kernel
theorem dX5_followOne_30 : decode cX5_followOne 30 = .ok (.getfield 47, 3) := by decide +kernel
theorem dX5_followOne_33 : decode cX5_followOne 33 = .ok (.if_icmp .gt 65, 3) := by decide +kernel
theorem dX5_followOne_98 : decode cX5_followOne 98 = .ok (.aload_n 0, 1) := by decide +kernel
theorem dX5_followOne_99 : decode cX5_followOne 99 = .ok (.getfield 11, 3) := by decide +kernel
theorem dX5_followOne_102 : decode cX5_followOne 102 = .ok (.iconst 0, 1) := by decide +kernel
theorem dX5_followOne_103 : decode cX5_followOne 103 = .ok (.lload_n 3, 1) := by decide +kernel
theorem dX5_followOne_104 : decode cX5_followOne 104 = .ok (.lload 5, 2) := by decide +kernel
theorem dX5_followOne_106 : decode cX5_followOne 106 = .ok (.ladd, 1) := by decide +kernel
theorem dX5_followOne_107 : decode cX5_followOne 107 = .ok (.lastore, 1) := by decide +kernel
theorem dX5_followOne_108 : decode cX5_followOne 108 = .ok (.return_, 1) := by decide +kernel
theorem dX5_followOne_36 : decode cX5_followOne 36 = .ok (.iload 7, 2) := by decide +kernel
theorem dX5_followOne_38 : decode cX5_followOne 38 = .ok (.bipush 61, 2) := by decide +kernel
theorem dX5_followOne_40 : decode cX5_followOne 40 = .ok (.if_icmp .ge 58, 3) := by decide +kernel
theorem dX5_followOne_43 : decode cX5_followOne 43 = .ok (.aload_n 1, 1) := by decide +kernel
theorem dX5_followOne_44 : decode cX5_followOne 44 = .ok (.iload 7, 2) := by decide +kernel
theorem dX5_followOne_46 : decode cX5_followOne 46 = .ok (.lload_n 3, 1) := by decide +kernel
theorem dX5_followOne_47 : decode cX5_followOne 47 = .ok (.lload 5, 2) := by decide +kernel
theorem dX5_followOne_49 : decode cX5_followOne 49 = .ok (.invokestatic 51, 3) := by decide +kernel
theorem dX5_followOne_52 : decode cX5_followOne 52 = .ok (.lstore 8, 2) := by decide +kernel
theorem dX5_followOne_54 : decode cX5_followOne 54 = .ok (.lload_n 3, 1) := by decide +kernel
theorem dX5_followOne_55 : decode cX5_followOne 55 = .ok (.lload 5, 2) := by decide +kernel
theorem dX5_followOne_57 : decode cX5_followOne 57 = .ok (.ladd, 1) := by decide +kernel
theorem dX5_followOne_58 : decode cX5_followOne 58 = .ok (.lload 8, 2) := by decide +kernel
theorem dX5_followOne_60 : decode cX5_followOne 60 = .ok (.lsub, 1) := by decide +kernel
theorem dX5_followOne_61 : decode cX5_followOne 61 = .ok (.lstore 5, 2) := by decide +kernel
theorem dX5_followOne_63 : decode cX5_followOne 63 = .ok (.aload_n 0, 1) := by decide +kernel
theorem dX5_followOne_64 : decode cX5_followOne 64 = .ok (.getfield 11, 3) := by decide +kernel
theorem dX5_followOne_67 : decode cX5_followOne 67 = .ok (.iload 7, 2) := by decide +kernel
theorem dX5_followOne_69 : decode cX5_followOne 69 = .ok (.lload 8, 2) := by decide +kernel
theorem dX5_followOne_71 : decode cX5_followOne 71 = .ok (.aload_n 1, 1) := by decide +kernel
theorem dX5_followOne_72 : decode cX5_followOne 72 = .ok (.getfield 55, 3) := by decide +kernel
theorem dX5_followOne_75 : decode cX5_followOne 75 = .ok (.iload_n 2, 1) := by decide +kernel
theorem dX5_followOne_76 : decode cX5_followOne 76 = .ok (.iaload, 1) := by decide +kernel
theorem dX5_followOne_77 : decode cX5_followOne 77 = .ok (.invokestatic 59, 3) := by decide +kernel
theorem dX5_followOne_80 : decode cX5_followOne 80 = .ok (.lastore, 1) := by decide +kernel
theorem dX5_followOne_81 : decode cX5_followOne 81 = .ok (.lload 8, 2) := by decide +kernel
theorem dX5_followOne_83 : decode cX5_followOne 83 = .ok (.aload_n 0, 1) := by decide +kernel
theorem dX5_followOne_84 : decode cX5_followOne 84 = .ok (.getfield 11, 3) := by decide +kernel
theorem dX5_followOne_87 : decode cX5_followOne 87 = .ok (.iload 7, 2) := by decide +kernel
theorem dX5_followOne_89 : decode cX5_followOne 89 = .ok (.laload, 1) := by decide +kernel
theorem dX5_followOne_90 : decode cX5_followOne 90 = .ok (.lsub, 1) := by decide +kernel
theorem dX5_followOne_91 : decode cX5_followOne 91 = .ok (.lstore_n 3, 1) := by decide +kernel
theorem dX5_followOne_92 : decode cX5_followOne 92 = .ok (.iinc 7 1, 3) := by decide +kernel
theorem dX5_followOne_95 : decode cX5_followOne 95 = .ok (.goto (-68), 3) := by decide +kernel
theorem dX5_followOne_16 : decode cX5_followOne 16 = .ok (.return_, 1) := by decide +kernel
theorem dX5_skyOfTwo_0 : decode cX5_skyOfTwo 0 = .ok (.aload_n 1, 1) := by decide +kernel
theorem dX5_skyOfTwo_1 : decode cX5_skyOfTwo 1 = .ok (.iload_n 2, 1) := by decide +kernel
theorem dX5_skyOfTwo_2 : decode cX5_skyOfTwo 2 = .ok (.aload_n 0, 1) := by decide +kernel
theorem dX5_skyOfTwo_3 : decode cX5_skyOfTwo 3 = .ok (.getfield 18, 3) := by decide +kernel
theorem dX5_skyOfTwo_6 : decode cX5_skyOfTwo 6 = .ok (.iload_n 3, 1) := by decide +kernel
theorem dX5_skyOfTwo_7 : decode cX5_skyOfTwo 7 = .ok (.laload, 1) := by decide +kernel
theorem dX5_skyOfTwo_8 : decode cX5_skyOfTwo 8 = .ok (.aload_n 0, 1) := by decide +kernel
theorem dX5_skyOfTwo_9 : decode cX5_skyOfTwo 9 = .ok (.getfield 21, 3) := by decide +kernel
theorem dX5_skyOfTwo_12 : decode cX5_skyOfTwo 12 = .ok (.iload_n 3, 1) := by decide +kernel
theorem dX5_skyOfTwo_13 : decode cX5_skyOfTwo 13 = .ok (.laload, 1) := by decide +kernel
theorem dX5_skyOfTwo_14 : decode cX5_skyOfTwo 14 = .ok (.invokestatic 51, 3) := by decide +kernel
theorem dX5_skyOfTwo_17 : decode cX5_skyOfTwo 17 = .ok (.lstore 4, 2) := by decide +kernel
theorem dX5_skyOfTwo_19 : decode cX5_skyOfTwo 19 = .ok (.aload_n 0, 1) := by decide +kernel
theorem dX5_skyOfTwo_20 : decode cX5_skyOfTwo 20 = .ok (.getfield 21, 3) := by decide +kernel
theorem dX5_skyOfTwo_23 : decode cX5_skyOfTwo 23 = .ok (.iload_n 3, 1) := by decide +kernel
theorem dX5_skyOfTwo_24 : decode cX5_skyOfTwo 24 = .ok (.aload_n 0, 1) := by decide +kernel
theorem dX5_skyOfTwo_25 : decode cX5_skyOfTwo 25 = .ok (.getfield 18, 3) := by decide +kernel
theorem dX5_skyOfTwo_28 : decode cX5_skyOfTwo 28 = .ok (.iload_n 3, 1) := by decide +kernel
theorem dX5_skyOfTwo_29 : decode cX5_skyOfTwo 29 = .ok (.laload, 1) := by decide +kernel
theorem dX5_skyOfTwo_30 : decode cX5_skyOfTwo 30 = .ok (.aload_n 0, 1) := by decide +kernel
theorem dX5_skyOfTwo_31 : decode cX5_skyOfTwo 31 = .ok (.getfield 21, 3) := by decide +kernel
theorem dX5_skyOfTwo_34 : decode cX5_skyOfTwo 34 = .ok (.iload_n 3, 1) := by decide +kernel
theorem dX5_skyOfTwo_35 : decode cX5_skyOfTwo 35 = .ok (.laload, 1) := by decide +kernel
theorem dX5_skyOfTwo_36 : decode cX5_skyOfTwo 36 = .ok (.ladd, 1) := by decide +kernel
theorem dX5_skyOfTwo_37 : decode cX5_skyOfTwo 37 = .ok (.lload 4, 2) := by decide +kernel
theorem dX5_skyOfTwo_39 : decode cX5_skyOfTwo 39 = .ok (.lsub, 1) := by decide +kernel
theorem dX5_skyOfTwo_40 : decode cX5_skyOfTwo 40 = .ok (.lastore, 1) := by decide +kernel
theorem dX5_skyOfTwo_41 : decode cX5_skyOfTwo 41 = .ok (.lload 4, 2) := by decide +kernel
theorem dX5_skyOfTwo_43 : decode cX5_skyOfTwo 43 = .ok (.lreturn, 1) := by decide +kernel
theorem dX5_shutSecond_0 : decode cX5_shutSecond 0 = .ok (.aload_n 0, 1) := by decide +kernel
theorem dX5_shutSecond_1 : decode cX5_shutSecond 1 = .ok (.aload_n 1, 1) := by decide +kernel
theorem dX5_shutSecond_2 : decode cX5_shutSecond 2 = .ok (.iload_n 2, 1) := by decide +kernel
theorem dX5_shutSecond_3 : decode cX5_shutSecond 3 = .ok (.iload_n 3, 1) := by decide +kernel
theorem dX5_shutSecond_4 : decode cX5_shutSecond 4 = .ok (.invokevirtual 75, 3) := by decide +kernel
theorem dX5_shutSecond_7 : decode cX5_shutSecond 7 = .ok (.lstore 5, 2) := by decide +kernel
theorem dX5_shutSecond_9 : decode cX5_shutSecond 9 = .ok (.lload 5, 2) := by decide +kernel
theorem dX5_shutSecond_11 : decode cX5_shutSecond 11 = .ok (.iload 4, 2) := by decide +kernel
theorem dX5_shutSecond_13 : decode cX5_shutSecond 13 = .ok (.invokestatic 59, 3) := by decide +kernel
theorem dX5_shutSecond_16 : decode cX5_shutSecond 16 = .ok (.lstore 7, 2) := by decide +kernel
theorem dX5_shutSecond_18 : decode cX5_shutSecond 18 = .ok (.aload_n 0, 1) := by decide +kernel
theorem dX5_shutSecond_19 : decode cX5_shutSecond 19 = .ok (.getfield 18, 3) := by decide +kernel
theorem dX5_shutSecond_22 : decode cX5_shutSecond 22 = .ok (.iload_n 3, 1) := by decide +kernel
theorem dX5_shutSecond_23 : decode cX5_shutSecond 23 = .ok (.lload 5, 2) := by decide +kernel
theorem dX5_shutSecond_25 : decode cX5_shutSecond 25 = .ok (.lload 7, 2) := by decide +kernel
theorem dX5_shutSecond_27 : decode cX5_shutSecond 27 = .ok (.lsub, 1) := by decide +kernel
theorem dX5_shutSecond_28 : decode cX5_shutSecond 28 = .ok (.lastore, 1) := by decide +kernel
theorem dX5_shutSecond_29 : decode cX5_shutSecond 29 = .ok (.lload 7, 2) := by decide +kernel
theorem dX5_shutSecond_31 : decode cX5_shutSecond 31 = .ok (.lreturn, 1) := by decide +kernel
theorem dX5_splitBothOpen_0 : decode cX5_splitBothOpen 0 = .ok (.aload_n 0, 1) := by decide +kernel
theorem dX5_splitBothOpen_1 : decode cX5_splitBothOpen 1 = .ok (.aload_n 1, 1) := by decide +kernel
theorem dX5_splitBothOpen_2 : decode cX5_splitBothOpen 2 = .ok (.iload_n 2, 1) := by decide +kernel
theorem dX5_splitBothOpen_3 : decode cX5_splitBothOpen 3 = .ok (.iconst 0, 1) := by decide +kernel
theorem dX5_splitBothOpen_4 : decode cX5_splitBothOpen 4 = .ok (.invokevirtual 75, 3) := by decide +kernel
theorem dX5_splitBothOpen_7 : decode cX5_splitBothOpen 7 = .ok (.lstore 5, 2) := by decide +kernel
theorem dX5_splitBothOpen_9 : decode cX5_splitBothOpen 9 = .ok (.lload 5, 2) := by decide +kernel
theorem dX5_splitBothOpen_11 : decode cX5_splitBothOpen 11 = .ok (.iload_n 3, 1) := by decide +kernel
theorem dX5_splitBothOpen_12 : decode cX5_splitBothOpen 12 = .ok (.invokestatic 59, 3) := by decide +kernel
theorem dX5_splitBothOpen_15 : decode cX5_splitBothOpen 15 = .ok (.lstore 7, 2) := by decide +kernel
theorem dX5_splitBothOpen_17 : decode cX5_splitBothOpen 17 = .ok (.lload 5, 2) := by decide +kernel
theorem dX5_splitBothOpen_19 : decode cX5_splitBothOpen 19 = .ok (.lload 7, 2) := by decide +kernel
theorem dX5_splitBothOpen_21 : decode cX5_splitBothOpen 21 = .ok (.lsub, 1) := by decide +kernel
theorem dX5_splitBothOpen_22 : decode cX5_splitBothOpen 22 = .ok (.lstore 9, 2) := by decide +kernel
theorem dX5_splitBothOpen_24 : decode cX5_splitBothOpen 24 = .ok (.lload 7, 2) := by decide +kernel
theorem dX5_splitBothOpen_26 : decode cX5_splitBothOpen 26 = .ok (.iload 4, 2) := by decide +kernel
theorem dX5_splitBothOpen_28 : decode cX5_splitBothOpen 28 = .ok (.invokestatic 59, 3) := by decide +kernel
theorem dX5_splitBothOpen_31 : decode cX5_splitBothOpen 31 = .ok (.lstore 11, 2) := by decide +kernel
theorem dX5_splitBothOpen_33 : decode cX5_splitBothOpen 33 = .ok (.lload 9, 2) := by decide +kernel
theorem dX5_splitBothOpen_35 : decode cX5_splitBothOpen 35 = .ok (.iload 4, 2) := by decide +kernel
theorem dX5_splitBothOpen_37 : decode cX5_splitBothOpen 37 = .ok (.invokestatic 59, 3) := by decide +kernel
theorem dX5_splitBothOpen_40 : decode cX5_splitBothOpen 40 = .ok (.lstore 13, 2) := by decide +kernel
theorem dX5_splitBothOpen_42 : decode cX5_splitBothOpen 42 = .ok (.aload_n 0, 1) := by decide +kernel
theorem dX5_splitBothOpen_43 : decode cX5_splitBothOpen 43 = .ok (.getfield 15, 3) := by decide +kernel
theorem dX5_splitBothOpen_46 : decode cX5_splitBothOpen 46 = .ok (.iload_n 2, 1) := by decide +kernel
theorem dX5_splitBothOpen_47 : decode cX5_splitBothOpen 47 = .ok (.bipush 61, 2) := by decide +kernel
theorem dX5_splitBothOpen_49 : decode cX5_splitBothOpen 49 = .ok (.imul, 1) := by decide +kernel
theorem dX5_splitBothOpen_50 : decode cX5_splitBothOpen 50 = .ok (.iload_n 2, 1) := by decide +kernel
theorem dX5_splitBothOpen_51 : decode cX5_splitBothOpen 51 = .ok (.iadd, 1) := by decide +kernel
theorem dX5_splitBothOpen_52 : decode cX5_splitBothOpen 52 = .ok (.lload 11, 2) := by decide +kernel
theorem dX5_splitBothOpen_54 : decode cX5_splitBothOpen 54 = .ok (.lastore, 1) := by decide +kernel
theorem dX5_splitBothOpen_55 : decode cX5_splitBothOpen 55 = .ok (.aload_n 0, 1) := by decide +kernel
theorem dX5_splitBothOpen_56 : decode cX5_splitBothOpen 56 = .ok (.getfield 18, 3) := by decide +kernel
theorem dX5_splitBothOpen_59 : decode cX5_splitBothOpen 59 = .ok (.iload_n 2, 1) := by decide +kernel
theorem dX5_splitBothOpen_60 : decode cX5_splitBothOpen 60 = .ok (.lload 7, 2) := by decide +kernel
theorem dX5_splitBothOpen_62 : decode cX5_splitBothOpen 62 = .ok (.lload 11, 2) := by decide +kernel
theorem dX5_splitBothOpen_64 : decode cX5_splitBothOpen 64 = .ok (.lsub, 1) := by decide +kernel
theorem dX5_splitBothOpen_65 : decode cX5_splitBothOpen 65 = .ok (.lastore, 1) := by decide +kernel
theorem dX5_splitBothOpen_66 : decode cX5_splitBothOpen 66 = .ok (.aload_n 0, 1) := by decide +kernel
theorem dX5_splitBothOpen_67 : decode cX5_splitBothOpen 67 = .ok (.getfield 18, 3) := by decide +kernel
theorem dX5_splitBothOpen_70 : decode cX5_splitBothOpen 70 = .ok (.bipush 61, 2) := by decide +kernel
theorem dX5_splitBothOpen_72 : decode cX5_splitBothOpen 72 = .ok (.iload_n 2, 1) := by decide +kernel
theorem dX5_splitBothOpen_73 : decode cX5_splitBothOpen 73 = .ok (.iadd, 1) := by decide +kernel
theorem dX5_splitBothOpen_74 : decode cX5_splitBothOpen 74 = .ok (.lload 13, 2) := by decide +kernel
theorem dX5_splitBothOpen_76 : decode cX5_splitBothOpen 76 = .ok (.lastore, 1) := by decide +kernel
theorem dX5_splitBothOpen_77 : decode cX5_splitBothOpen 77 = .ok (.aload_n 0, 1) := by decide +kernel
theorem dX5_splitBothOpen_78 : decode cX5_splitBothOpen 78 = .ok (.getfield 18, 3) := by decide +kernel
theorem dX5_splitBothOpen_81 : decode cX5_splitBothOpen 81 = .ok (.iconst 0, 1) := by decide +kernel
theorem dX5_splitBothOpen_82 : decode cX5_splitBothOpen 82 = .ok (.lload 9, 2) := by decide +kernel
theorem dX5_splitBothOpen_84 : decode cX5_splitBothOpen 84 = .ok (.lload 13, 2) := by decide +kernel
theorem dX5_splitBothOpen_86 : decode cX5_splitBothOpen 86 = .ok (.lsub, 1) := by decide +kernel
theorem dX5_splitBothOpen_87 : decode cX5_splitBothOpen 87 = .ok (.lastore, 1) := by decide +kernel
theorem dX5_splitBothOpen_88 : decode cX5_splitBothOpen 88 = .ok (.return_, 1) := by decide +kernel
theorem dX5_followTwo_0 : decode cX5_followTwo 0 = .ok (.aload_n 0, 1) := by decide +kernel
theorem dX5_followTwo_1 : decode cX5_followTwo 1 = .ok (.getfield 15, 3) := by decide +kernel
theorem dX5_followTwo_4 : decode cX5_followTwo 4 = .ok (.lconst 0, 1) := by decide +kernel
theorem dX5_followTwo_5 : decode cX5_followTwo 5 = .ok (.invokestatic 33, 3) := by decide +kernel
theorem dX5_followTwo_8 : decode cX5_followTwo 8 = .ok (.aload_n 0, 1) := by decide +kernel
theorem dX5_followTwo_9 : decode cX5_followTwo 9 = .ok (.getfield 18, 3) := by decide +kernel
theorem dX5_followTwo_12 : decode cX5_followTwo 12 = .ok (.lconst 0, 1) := by decide +kernel
theorem dX5_followTwo_13 : decode cX5_followTwo 13 = .ok (.invokestatic 33, 3) := by decide +kernel
theorem dX5_followTwo_16 : decode cX5_followTwo 16 = .ok (.aload_n 0, 1) := by decide +kernel
theorem dX5_followTwo_17 : decode cX5_followTwo 17 = .ok (.getfield 21, 3) := by decide +kernel
theorem dX5_followTwo_20 : decode cX5_followTwo 20 = .ok (.lconst 0, 1) := by decide +kernel
theorem dX5_followTwo_21 : decode cX5_followTwo 21 = .ok (.invokestatic 33, 3) := by decide +kernel
theorem dX5_followTwo_24 : decode cX5_followTwo 24 = .ok (.aload_n 1, 1) := by decide +kernel
theorem dX5_followTwo_25 : decode cX5_followTwo 25 = .ok (.iload_n 2, 1) := by decide +kernel
theorem dX5_followTwo_26 : decode cX5_followTwo 26 = .ok (.iload_n 3, 1) := by decide +kernel
theorem dX5_followTwo_27 : decode cX5_followTwo 27 = .ok (.invokevirtual 63, 3) := by decide +kernel
theorem dX5_followTwo_30 : decode cX5_followTwo 30 = .ok (.ifCond .ne 4, 3) := by decide +kernel
theorem dX5_followTwo_34 : decode cX5_followTwo 34 = .ok (.aload_n 0, 1) := by decide +kernel
theorem dX5_followTwo_35 : decode cX5_followTwo 35 = .ok (.getfield 21, 3) := by decide +kernel
theorem dX5_followTwo_38 : decode cX5_followTwo 38 = .ok (.iconst 0, 1) := by decide +kernel
theorem dX5_followTwo_39 : decode cX5_followTwo 39 = .ok (.ldc2_w 45, 3) := by decide +kernel
theorem dX5_followTwo_42 : decode cX5_followTwo 42 = .ok (.lastore, 1) := by decide +kernel
theorem dX5_followTwo_43 : decode cX5_followTwo 43 = .ok (.aload_n 1, 1) := by decide +kernel
theorem dX5_followTwo_44 : decode cX5_followTwo 44 = .ok (.getfield 55, 3) := by decide +kernel
theorem dX5_followTwo_47 : decode cX5_followTwo 47 = .ok (.iload_n 2, 1) := by decide +kernel
theorem dX5_followTwo_48 : decode cX5_followTwo 48 = .ok (.iaload, 1) := by decide +kernel
theorem dX5_followTwo_49 : decode cX5_followTwo 49 = .ok (.istore 4, 2) := by decide +kernel
theorem dX5_followTwo_51 : decode cX5_followTwo 51 = .ok (.aload_n 1, 1) := by decide +kernel
theorem dX5_followTwo_52 : decode cX5_followTwo 52 = .ok (.getfield 55, 3) := by decide +kernel
theorem dX5_followTwo_55 : decode cX5_followTwo 55 = .ok (.iload_n 3, 1) := by decide +kernel
theorem dX5_followTwo_56 : decode cX5_followTwo 56 = .ok (.iaload, 1) := by decide +kernel
theorem dX5_followTwo_57 : decode cX5_followTwo 57 = .ok (.istore 5, 2) := by decide +kernel
theorem dX5_followTwo_59 : decode cX5_followTwo 59 = .ok (.iconst 1, 1) := by decide +kernel
theorem dX5_followTwo_60 : decode cX5_followTwo 60 = .ok (.istore 6, 2) := by decide +kernel
theorem dX5_followTwo_62 : decode cX5_followTwo 62 = .ok (.iload 6, 2) := by decide +kernel
theorem dX5_followTwo_64 : decode cX5_followTwo 64 = .ok (.aload_n 1, 1) := by decide +kernel
theorem dX5_followTwo_65 : decode cX5_followTwo 65 = .ok (.getfield 47, 3) := by decide +kernel
theorem dX5_followTwo_68 : decode cX5_followTwo 68 = .ok (.if_icmp .gt 94, 3) := by decide +kernel
theorem dX5_followTwo_162 : decode cX5_followTwo 162 = .ok (.aload_n 0, 1) := by decide +kernel
theorem dX5_followTwo_163 : decode cX5_followTwo 163 = .ok (.getfield 15, 3) := by decide +kernel
theorem dX5_followTwo_166 : decode cX5_followTwo 166 = .ok (.iconst 0, 1) := by decide +kernel
theorem dX5_followTwo_167 : decode cX5_followTwo 167 = .ok (.aload_n 0, 1) := by decide +kernel
theorem dX5_followTwo_168 : decode cX5_followTwo 168 = .ok (.getfield 18, 3) := by decide +kernel
theorem dX5_followTwo_171 : decode cX5_followTwo 171 = .ok (.iconst 0, 1) := by decide +kernel
theorem dX5_followTwo_172 : decode cX5_followTwo 172 = .ok (.laload, 1) := by decide +kernel
theorem dX5_followTwo_173 : decode cX5_followTwo 173 = .ok (.aload_n 0, 1) := by decide +kernel
theorem dX5_followTwo_174 : decode cX5_followTwo 174 = .ok (.getfield 21, 3) := by decide +kernel
theorem dX5_followTwo_177 : decode cX5_followTwo 177 = .ok (.iconst 0, 1) := by decide +kernel
theorem dX5_followTwo_178 : decode cX5_followTwo 178 = .ok (.laload, 1) := by decide +kernel
theorem dX5_followTwo_179 : decode cX5_followTwo 179 = .ok (.ladd, 1) := by decide +kernel
theorem dX5_followTwo_180 : decode cX5_followTwo 180 = .ok (.lastore, 1) := by decide +kernel
theorem dX5_followTwo_181 : decode cX5_followTwo 181 = .ok (.iconst 1, 1) := by decide +kernel
theorem dX5_followTwo_182 : decode cX5_followTwo 182 = .ok (.istore 6, 2) := by decide +kernel
theorem dX5_followTwo_184 : decode cX5_followTwo 184 = .ok (.iload 6, 2) := by decide +kernel
theorem dX5_followTwo_186 : decode cX5_followTwo 186 = .ok (.bipush 61, 2) := by decide +kernel
theorem dX5_followTwo_188 : decode cX5_followTwo 188 = .ok (.if_icmp .ge 62, 3) := by decide +kernel
theorem dX5_followTwo_250 : decode cX5_followTwo 250 = .ok (.return_, 1) := by decide +kernel
theorem dX5_followTwo_191 : decode cX5_followTwo 191 = .ok (.aload_n 0, 1) := by decide +kernel
theorem dX5_followTwo_192 : decode cX5_followTwo 192 = .ok (.getfield 15, 3) := by decide +kernel
theorem dX5_followTwo_195 : decode cX5_followTwo 195 = .ok (.iload 6, 2) := by decide +kernel
theorem dX5_followTwo_197 : decode cX5_followTwo 197 = .ok (.bipush 61, 2) := by decide +kernel
theorem dX5_followTwo_199 : decode cX5_followTwo 199 = .ok (.imul, 1) := by decide +kernel
theorem dX5_followTwo_200 : decode cX5_followTwo 200 = .ok (.aload_n 0, 1) := by decide +kernel
theorem dX5_followTwo_201 : decode cX5_followTwo 201 = .ok (.getfield 18, 3) := by decide +kernel
theorem dX5_followTwo_204 : decode cX5_followTwo 204 = .ok (.iload 6, 2) := by decide +kernel
theorem dX5_followTwo_206 : decode cX5_followTwo 206 = .ok (.laload, 1) := by decide +kernel
theorem dX5_followTwo_207 : decode cX5_followTwo 207 = .ok (.aload_n 0, 1) := by decide +kernel
theorem dX5_followTwo_208 : decode cX5_followTwo 208 = .ok (.getfield 21, 3) := by decide +kernel
theorem dX5_followTwo_211 : decode cX5_followTwo 211 = .ok (.iload 6, 2) := by decide +kernel
theorem dX5_followTwo_213 : decode cX5_followTwo 213 = .ok (.laload, 1) := by decide +kernel
theorem dX5_followTwo_214 : decode cX5_followTwo 214 = .ok (.ladd, 1) := by decide +kernel
theorem dX5_followTwo_215 : decode cX5_followTwo 215 = .ok (.lastore, 1) := by decide +kernel
theorem dX5_followTwo_216 : decode cX5_followTwo 216 = .ok (.aload_n 0, 1) := by decide +kernel
theorem dX5_followTwo_217 : decode cX5_followTwo 217 = .ok (.getfield 15, 3) := by decide +kernel
theorem dX5_followTwo_220 : decode cX5_followTwo 220 = .ok (.iload 6, 2) := by decide +kernel
theorem dX5_followTwo_222 : decode cX5_followTwo 222 = .ok (.aload_n 0, 1) := by decide +kernel
theorem dX5_followTwo_223 : decode cX5_followTwo 223 = .ok (.getfield 18, 3) := by decide +kernel
theorem dX5_followTwo_226 : decode cX5_followTwo 226 = .ok (.bipush 61, 2) := by decide +kernel
theorem dX5_followTwo_228 : decode cX5_followTwo 228 = .ok (.iload 6, 2) := by decide +kernel
theorem dX5_followTwo_230 : decode cX5_followTwo 230 = .ok (.iadd, 1) := by decide +kernel
theorem dX5_followTwo_231 : decode cX5_followTwo 231 = .ok (.laload, 1) := by decide +kernel
theorem dX5_followTwo_232 : decode cX5_followTwo 232 = .ok (.aload_n 0, 1) := by decide +kernel
theorem dX5_followTwo_233 : decode cX5_followTwo 233 = .ok (.getfield 21, 3) := by decide +kernel
theorem dX5_followTwo_236 : decode cX5_followTwo 236 = .ok (.bipush 61, 2) := by decide +kernel
theorem dX5_followTwo_238 : decode cX5_followTwo 238 = .ok (.iload 6, 2) := by decide +kernel
theorem dX5_followTwo_240 : decode cX5_followTwo 240 = .ok (.iadd, 1) := by decide +kernel
theorem dX5_followTwo_241 : decode cX5_followTwo 241 = .ok (.laload, 1) := by decide +kernel
theorem dX5_followTwo_242 : decode cX5_followTwo 242 = .ok (.ladd, 1) := by decide +kernel
theorem dX5_followTwo_243 : decode cX5_followTwo 243 = .ok (.lastore, 1) := by decide +kernel
theorem dX5_followTwo_244 : decode cX5_followTwo 244 = .ok (.iinc 6 1, 3) := by decide +kernel
theorem dX5_followTwo_247 : decode cX5_followTwo 247 = .ok (.goto (-63), 3) := by decide +kernel
theorem dX5_followTwo_71 : decode cX5_followTwo 71 = .ok (.iload 6, 2) := by decide +kernel
theorem dX5_followTwo_73 : decode cX5_followTwo 73 = .ok (.bipush 61, 2) := by decide +kernel
theorem dX5_followTwo_75 : decode cX5_followTwo 75 = .ok (.if_icmp .ge 87, 3) := by decide +kernel
theorem dX5_followTwo_78 : decode cX5_followTwo 78 = .ok (.iconst 1, 1) := by decide +kernel
theorem dX5_followTwo_79 : decode cX5_followTwo 79 = .ok (.istore 7, 2) := by decide +kernel
theorem dX5_followTwo_81 : decode cX5_followTwo 81 = .ok (.iload 7, 2) := by decide +kernel
theorem dX5_followTwo_83 : decode cX5_followTwo 83 = .ok (.iload 6, 2) := by decide +kernel
theorem dX5_followTwo_85 : decode cX5_followTwo 85 = .ok (.if_icmp .ge 60, 3) := by decide +kernel
theorem dX5_followTwo_145 : decode cX5_followTwo 145 = .ok (.aload_n 0, 1) := by decide +kernel
theorem dX5_followTwo_146 : decode cX5_followTwo 146 = .ok (.aload_n 1, 1) := by decide +kernel
theorem dX5_followTwo_147 : decode cX5_followTwo 147 = .ok (.iload 6, 2) := by decide +kernel
theorem dX5_followTwo_149 : decode cX5_followTwo 149 = .ok (.iload 4, 2) := by decide +kernel
theorem dX5_followTwo_151 : decode cX5_followTwo 151 = .ok (.iload 5, 2) := by decide +kernel
theorem dX5_followTwo_153 : decode cX5_followTwo 153 = .ok (.invokevirtual 71, 3) := by decide +kernel
theorem dX5_followTwo_156 : decode cX5_followTwo 156 = .ok (.iinc 6 1, 3) := by decide +kernel
theorem dX5_followTwo_159 : decode cX5_followTwo 159 = .ok (.goto (-97), 3) := by decide +kernel
theorem dX5_followTwo_88 : decode cX5_followTwo 88 = .ok (.aload_n 0, 1) := by decide +kernel
theorem dX5_followTwo_89 : decode cX5_followTwo 89 = .ok (.getfield 15, 3) := by decide +kernel
theorem dX5_followTwo_92 : decode cX5_followTwo 92 = .ok (.iload 7, 2) := by decide +kernel
theorem dX5_followTwo_94 : decode cX5_followTwo 94 = .ok (.bipush 61, 2) := by decide +kernel
theorem dX5_followTwo_96 : decode cX5_followTwo 96 = .ok (.imul, 1) := by decide +kernel
theorem dX5_followTwo_97 : decode cX5_followTwo 97 = .ok (.iload 6, 2) := by decide +kernel
theorem dX5_followTwo_99 : decode cX5_followTwo 99 = .ok (.iadd, 1) := by decide +kernel
theorem dX5_followTwo_100 : decode cX5_followTwo 100 = .ok (.aload_n 0, 1) := by decide +kernel
theorem dX5_followTwo_101 : decode cX5_followTwo 101 = .ok (.aload_n 1, 1) := by decide +kernel
theorem dX5_followTwo_102 : decode cX5_followTwo 102 = .ok (.iload 6, 2) := by decide +kernel
theorem dX5_followTwo_104 : decode cX5_followTwo 104 = .ok (.iload 7, 2) := by decide +kernel
theorem dX5_followTwo_106 : decode cX5_followTwo 106 = .ok (.iload 5, 2) := by decide +kernel
theorem dX5_followTwo_108 : decode cX5_followTwo 108 = .ok (.invokevirtual 67, 3) := by decide +kernel
theorem dX5_followTwo_111 : decode cX5_followTwo 111 = .ok (.lastore, 1) := by decide +kernel
theorem dX5_followTwo_112 : decode cX5_followTwo 112 = .ok (.aload_n 0, 1) := by decide +kernel
theorem dX5_followTwo_113 : decode cX5_followTwo 113 = .ok (.getfield 15, 3) := by decide +kernel
theorem dX5_followTwo_116 : decode cX5_followTwo 116 = .ok (.iload 6, 2) := by decide +kernel
theorem dX5_followTwo_118 : decode cX5_followTwo 118 = .ok (.bipush 61, 2) := by decide +kernel
theorem dX5_followTwo_120 : decode cX5_followTwo 120 = .ok (.imul, 1) := by decide +kernel
theorem dX5_followTwo_121 : decode cX5_followTwo 121 = .ok (.iload 7, 2) := by decide +kernel
theorem dX5_followTwo_123 : decode cX5_followTwo 123 = .ok (.iadd, 1) := by decide +kernel
theorem dX5_followTwo_124 : decode cX5_followTwo 124 = .ok (.aload_n 0, 1) := by decide +kernel
theorem dX5_followTwo_125 : decode cX5_followTwo 125 = .ok (.aload_n 1, 1) := by decide +kernel
theorem dX5_followTwo_126 : decode cX5_followTwo 126 = .ok (.iload 6, 2) := by decide +kernel
theorem dX5_followTwo_128 : decode cX5_followTwo 128 = .ok (.bipush 61, 2) := by decide +kernel
theorem dX5_followTwo_130 : decode cX5_followTwo 130 = .ok (.iload 7, 2) := by decide +kernel
theorem dX5_followTwo_132 : decode cX5_followTwo 132 = .ok (.iadd, 1) := by decide +kernel
theorem dX5_followTwo_133 : decode cX5_followTwo 133 = .ok (.iload 4, 2) := by decide +kernel
theorem dX5_followTwo_135 : decode cX5_followTwo 135 = .ok (.invokevirtual 67, 3) := by decide +kernel
theorem dX5_followTwo_138 : decode cX5_followTwo 138 = .ok (.lastore, 1) := by decide +kernel
theorem dX5_followTwo_139 : decode cX5_followTwo 139 = .ok (.iinc 7 1, 3) := by decide +kernel
theorem dX5_followTwo_142 : decode cX5_followTwo 142 = .ok (.goto (-61), 3) := by decide +kernel
theorem dX5_followTwo_33 : decode cX5_followTwo 33 = .ok (.return_, 1) := by decide +kernel
theorem sV_X5_92 : SiteV RX5 92 yX2_chance cX2_chance 3 (some .int) 2 := ⟨ml_X5_92, im_X2_chance, se_X2_chance, ini_X2, co_X2_chance, by decide +kernel⟩
theorem sS_X5_59 : SiteS RX5 59 yX5_hundredths cX5_hundredths 3 (some .long) 2 := ⟨ml_X5_59, st_X5_hundredths, ini_X5, co_X5_hundredths, by decide +kernel⟩
theorem sS_X5_33 : SiteS RX5 33 yJ7_fill_d0a16 cJ7_fill_d0a16 5 none 2 := ⟨ml_X5_33, st_J7_fill_d0a16, ini_J7, co_J7_fill_d0a16, by decide +kernel⟩
theorem sV_X5_39 : SiteV RX5 39 yX2_hasValley cX2_hasValley 2 (some .boolean) 1 := ⟨ml_X5_39, im_X2_hasValley, se_X2_hasValley, ini_X2, co_X2_hasValley, by decide +kernel⟩
theorem sS_X5_51 : SiteS RX5 51 yX5_snowing cX5_snowing 6 (some .long) 4 := ⟨ml_X5_51, st_X5_snowing, ini_X5, co_X5_snowing, by decide +kernel⟩
theorem sV_X5_75 : SiteV RX5 75 yX5_skyOfTwo cX5_skyOfTwo 6 (some .long) 3 := ⟨ml_X5_75, im_X5_skyOfTwo, se_X5_skyOfTwo, ini_X5, co_X5_skyOfTwo, by decide +kernel⟩
theorem sV_X5_63 : SiteV RX5 63 yX2_hasTwo cX2_hasTwo 3 (some .boolean) 2 := ⟨ml_X5_63, im_X2_hasTwo, se_X2_hasTwo, ini_X2, co_X2_hasTwo, by decide +kernel⟩
theorem sV_X5_71 : SiteV RX5 71 yX5_splitBothOpen cX5_splitBothOpen 15 none 4 := ⟨ml_X5_71, im_X5_splitBothOpen, se_X5_splitBothOpen, ini_X5, co_X5_splitBothOpen, by decide +kernel⟩
theorem sV_X5_67 : SiteV RX5 67 yX5_shutSecond cX5_shutSecond 9 (some .long) 4 := ⟨ml_X5_67, im_X5_shutSecond, se_X5_shutSecond, ini_X5, co_X5_shutSecond, by decide +kernel⟩
set_option maxHeartbeats 4000000 in
set_option maxRecDepth 100000 in
theorem t_X5_hundredths (l : Launch) (D : va_G) (cy : Nat → ClassId) (base : Nat) (τ : Nat → Nat) (G : Gh) (x : Int64) (v : Int32) : MM l yX5_hundredths cX5_hundredths 3 (some .long) 0 0 0 D cy [.long x, .int v] (PT D cy base τ G) (PuL (fun r => True)) noF := by
  refine MM.of (by decide) (Nat.le_of_ble_eq_true rfl) ?_
  intro p e s m below meth c C hPT ls hl
  obtain ⟨hx, hb, hr, hml, hown, hts, hlocks, hK, hnm⟩ := C
  obtain ⟨hZ, hT⟩ := hPT
  have hS : va_S (RA base) s.heap s.heap [] := va_S.rf
  have hl : lv_has ls 3 [(0, .long x), (2, .int v)] := hl
  refine lv_lload_n hx hb dX5_hundredths_0 rfl (lv_at hl 0 rfl) ?_
  refine lv_iload_n hx hb dX5_hundredths_1 rfl (lv_at hl 1 rfl) ?_
  refine lv_i2l hx hb dX5_hundredths_2 rfl ?_
  refine lv_topl (fun z_1 ez_1 => ?_)
  have tz_1 : z_1.toInt = v.toInt := by rw [ez_1]; exact wide_t v
  have az_1 := min_t v
  have bz_1 := max_t v
  refine lv_lmul hx hb dX5_hundredths_3 ?_
  refine lv_topl (fun z_2 ez_2 => ?_)
  refine lv_ldc2 (v := 100) hx hb hown (hts _ kl_X5_96) dX5_hundredths_4 ?_
  refine lv_ldiv hx hb dX5_hundredths_7 (by decide) ?_
  refine lv_topl (fun z_3 ez_3 => ?_)
  exact ret_l hx hb hr hlocks ⟨rfl, _, rfl, trivial⟩ (fun _ h => absurd h List.not_mem_nil) (Nat.le_refl _) (Nat.le_refl _) dX5_hundredths_8
set_option maxHeartbeats 4000000 in
set_option maxRecDepth 100000 in
theorem t_X5_snowing (l : Launch) (D : va_G) (cy : Nat → ClassId) (base : Nat) (τ : Nat → Nat) (G : Gh) (b : Nat) (h_b : τ b = 7) (v : Int32) (x : Int64) (y : Int64) : MM l yX5_snowing cX5_snowing 6 (some .long) 1 0 0 D cy [.ref b, .int v, .long x, .long y] (PT D cy base τ G) (PuL (fun r => True)) noF := by
  refine MM.of (by decide) (Nat.le_of_ble_eq_true rfl) ?_
  intro p e s m below meth c C hPT ls hl
  obtain ⟨hx, hb, hr, hml, hown, hts, hlocks, hK, hnm⟩ := C
  obtain ⟨hZ, hT⟩ := hPT
  have hS : va_S (RA base) s.heap s.heap [] := va_S.rf
  have hl : lv_has ls 6 [(0, .ref b), (1, .int v), (2, .long x), (4, .long y)] := hl
  refine lv_lload_n hx hb dX5_snowing_0 rfl (lv_at hl 2 rfl) ?_
  refine lv_aload_n hx hb dX5_snowing_1 rfl (lv_at hl 0 rfl) ?_
  refine lv_iload_n hx hb dX5_snowing_2 rfl (lv_at hl 1 rfl) ?_
  refine lv_iconst (v := 1) hx hb dX5_snowing_3 (by decide) ?_
  refine pu_calli (runV (As := [.int v, .int 1]) (rest := [.long x]) ⟨hx, hb, hml, hown, hts⟩ (t_X2_chance l D cy base τ G b h_b v 1) sV_X5_92 hK (t_recv cf_7 hK hT h_b) ⟨Nat.le_trans hZ hS.1, hT⟩ ⟨Nat.le_of_ble_eq_true rfl, Nat.le_of_ble_eq_true rfl⟩ rfl hl.1 rfl (Nat.le_of_ble_eq_true rfl) dX5_snowing_4 ⟨Nat.le_of_ble_eq_true rfl, Nat.le_of_ble_eq_true rfl⟩) (fun r_1 hr_1 => ?_)
  refine pu_calll (runS (As := [.long x, .int r_1]) (rest := []) ⟨hx, hb, hml, hown, hts⟩ (t_X5_hundredths l D cy base τ G x r_1) sS_X5_59 hK ⟨Nat.le_trans hZ hS.1, hT⟩ ⟨Nat.le_of_ble_eq_true rfl, Nat.le_of_ble_eq_true rfl⟩ rfl hl.1 rfl (Nat.le_of_ble_eq_true rfl) dX5_snowing_7 ⟨Nat.le_of_ble_eq_true rfl, Nat.le_of_ble_eq_true rfl⟩) (fun r_2 hr_2 => ?_)
  refine lv_lload hx hb dX5_snowing_10 (lv_at hl 3 rfl) ?_
  refine lv_aload_n hx hb dX5_snowing_12 rfl (lv_at hl 0 rfl) ?_
  refine lv_iload_n hx hb dX5_snowing_13 rfl (lv_at hl 1 rfl) ?_
  refine lv_iconst (v := 0) hx hb dX5_snowing_14 (by decide) ?_
  refine pu_calli (runV (As := [.int v, .int 0]) (rest := [.long y, .long r_2]) ⟨hx, hb, hml, hown, hts⟩ (t_X2_chance l D cy base τ G b h_b v 0) sV_X5_92 hK (t_recv cf_7 hK hT h_b) ⟨Nat.le_trans hZ hS.1, hT⟩ ⟨Nat.le_of_ble_eq_true rfl, Nat.le_of_ble_eq_true rfl⟩ rfl hl.1 rfl (Nat.le_of_ble_eq_true rfl) dX5_snowing_15 ⟨Nat.le_of_ble_eq_true rfl, Nat.le_of_ble_eq_true rfl⟩) (fun r_3 hr_3 => ?_)
  refine pu_calll (runS (As := [.long y, .int r_3]) (rest := [.long r_2]) ⟨hx, hb, hml, hown, hts⟩ (t_X5_hundredths l D cy base τ G y r_3) sS_X5_59 hK ⟨Nat.le_trans hZ hS.1, hT⟩ ⟨Nat.le_of_ble_eq_true rfl, Nat.le_of_ble_eq_true rfl⟩ rfl hl.1 rfl (Nat.le_of_ble_eq_true rfl) dX5_snowing_18 ⟨Nat.le_of_ble_eq_true rfl, Nat.le_of_ble_eq_true rfl⟩) (fun r_4 hr_4 => ?_)
  refine lv_ladd hx hb dX5_snowing_21 ?_
  refine lv_topl (fun z_5 ez_5 => ?_)
  exact ret_l hx hb hr hlocks ⟨rfl, _, rfl, trivial⟩ (fun _ h => absurd h List.not_mem_nil) (Nat.le_refl _) (Nat.le_refl _) dX5_snowing_22
set_option maxHeartbeats 4000000 in
set_option maxRecDepth 100000 in
theorem t_X5_partsOn (l : Launch) (D : va_G) (cy : Nat → ClassId) (base : Nat) (τ : Nat → Nat) (G : Gh) (a : Nat) (h_a : τ a = 8) (v : Int32) : MM l yX5_partsOn cX5_partsOn 2 (some .long) 0 0 0 D cy [.ref a, .int v] (PT D cy base τ G) (PuL (fun r => True)) noF := by
  refine MM.of (by decide) (Nat.le_of_ble_eq_true rfl) ?_
  intro p e s m below meth c C hPT ls hl
  obtain ⟨hx, hb, hr, hml, hown, hts, hlocks, hK, hnm⟩ := C
  obtain ⟨hZ, hT⟩ := hPT
  have hS : va_S (RA base) s.heap s.heap [] := va_S.rf
  have hl : lv_has ls 2 [(0, .ref a), (1, .int v)] := hl
  refine lv_iload_n hx hb dX5_partsOn_0 rfl (lv_at hl 1 rfl) ?_
  refine lv_if_lt (tgt := 19) hx hb dX5_partsOn_1 (by decide) (fun c_1 => ?_) (fun c_1 => ?_)
  · skip
    have tc_1 : v.toInt < 0 := (fa_lt _ _).mp c_1
    refine lv_lconst (v := 0) hx hb dX5_partsOn_19 (by decide) ?_
    exact ret_l hx hb hr hlocks ⟨rfl, _, rfl, trivial⟩ (fun _ h => absurd h List.not_mem_nil) (Nat.le_refl _) (Nat.le_refl _) dX5_partsOn_20
  · skip
    have tc_1 : ¬ v.toInt < 0 := fun h => c_1 ((fa_lt _ _).mpr h)
    refine lv_iload_n hx hb dX5_partsOn_4 rfl (lv_at hl 1 rfl) ?_
    refine lv_bipush (v := 61) hx hb dX5_partsOn_5 (by decide) ?_
    refine lv_icmp_ge (tgt := 19) hx hb dX5_partsOn_7 (by decide) (fun c_2 => ?_) (fun c_2 => ?_)
    · skip
      have tc_2 : 61 ≤ v.toInt := (fa_le _ _).mp c_2
      refine lv_lconst (v := 0) hx hb dX5_partsOn_19 (by decide) ?_
      exact ret_l hx hb hr hlocks ⟨rfl, _, rfl, trivial⟩ (fun _ h => absurd h List.not_mem_nil) (Nat.le_refl _) (Nat.le_refl _) dX5_partsOn_20
    · skip
      have tc_2 : ¬ 61 ≤ v.toInt := fun h => c_2 ((fa_le _ _).mpr h)
      refine lv_aload_n hx hb dX5_partsOn_10 rfl (lv_at hl 0 rfl) ?_
      refine t_getr cf_8 hx hb hts hown hK hT h_a (k := 0) (P := fun q => τ q = 32) rfl (fun _ h9 => h9) fl_X5_11 (fun _ h9 => h9) dX5_partsOn_11 (fun q_3 eq_3 hq_3 => ?_)
      refine lv_iload_n hx hb dX5_partsOn_14 rfl (lv_at hl 1 rfl) ?_
      refine t_lald (n := 61) (i := v) rfl (by decide) hx hb hK hT hq_3 (hT.len hq_3 (by decide)) ⟨by omega, by omega⟩ dX5_partsOn_15 (fun z_4 ez_4 => ?_)
      refine lv_goto (tgt := 20) hx hb dX5_partsOn_16 (by decide) ?_
      exact ret_l hx hb hr hlocks ⟨rfl, _, rfl, trivial⟩ (fun _ h => absurd h List.not_mem_nil) (Nat.le_refl _) (Nat.le_refl _) dX5_partsOn_20
set_option maxHeartbeats 4000000 in
set_option maxRecDepth 100000 in
theorem t_X5_partsOnTwo (l : Launch) (D : va_G) (cy : Nat → ClassId) (base : Nat) (τ : Nat → Nat) (G : Gh) (a : Nat) (h_a : τ a = 8) (v : Int32) (w : Int32) : MM l yX5_partsOnTwo cX5_partsOnTwo 4 (some .long) 0 0 0 D cy [.ref a, .int v, .int w] (PT D cy base τ G) (PuL (fun r => True)) noF := by
  refine MM.of (by decide) (Nat.le_of_ble_eq_true rfl) ?_
  intro p e s m below meth c C hPT ls hl
  obtain ⟨hx, hb, hr, hml, hown, hts, hlocks, hK, hnm⟩ := C
  obtain ⟨hZ, hT⟩ := hPT
  have hS : va_S (RA base) s.heap s.heap [] := va_S.rf
  have hl : lv_has ls 4 [(0, .ref a), (1, .int v), (2, .int w)] := hl
  refine lv_iload_n hx hb dX5_partsOnTwo_0 rfl (lv_at hl 1 rfl) ?_
  refine lv_if_lt (tgt := 24) hx hb dX5_partsOnTwo_1 (by decide) (fun c_1 => ?_) (fun c_1 => ?_)
  · skip
    have tc_1 : v.toInt < 0 := (fa_lt _ _).mp c_1
    refine lv_iconst (v := 0) hx hb dX5_partsOnTwo_24 (by decide) ?_
    refine lv_istore_n (lv' := [(3, .int 0), (0, .ref a), (1, .int v), (2, .int w)]) hx hb dX5_partsOnTwo_25 rfl hl (by decide) rfl (fun ls hl => ?_)
    refine lv_iload_n hx hb dX5_partsOnTwo_26 rfl (lv_at hl 0 rfl) ?_
    refine lv_if_eq (tgt := 44) hx hb dX5_partsOnTwo_27 (by decide) (fun _ => ?_) (fun c_2 => absurd (by decide) c_2)
    refine lv_lconst (v := 0) hx hb dX5_partsOnTwo_44 (by decide) ?_
    exact ret_l hx hb hr hlocks ⟨rfl, _, rfl, trivial⟩ (fun _ h => absurd h List.not_mem_nil) (Nat.le_refl _) (Nat.le_refl _) dX5_partsOnTwo_45
  · skip
    have tc_1 : ¬ v.toInt < 0 := fun h => c_1 ((fa_lt _ _).mpr h)
    refine lv_iload_n hx hb dX5_partsOnTwo_4 rfl (lv_at hl 1 rfl) ?_
    refine lv_bipush (v := 61) hx hb dX5_partsOnTwo_5 (by decide) ?_
    refine lv_icmp_ge (tgt := 24) hx hb dX5_partsOnTwo_7 (by decide) (fun c_3 => ?_) (fun c_3 => ?_)
    · skip
      have tc_3 : 61 ≤ v.toInt := (fa_le _ _).mp c_3
      refine lv_iconst (v := 0) hx hb dX5_partsOnTwo_24 (by decide) ?_
      refine lv_istore_n (lv' := [(3, .int 0), (0, .ref a), (1, .int v), (2, .int w)]) hx hb dX5_partsOnTwo_25 rfl hl (by decide) rfl (fun ls hl => ?_)
      refine lv_iload_n hx hb dX5_partsOnTwo_26 rfl (lv_at hl 0 rfl) ?_
      refine lv_if_eq (tgt := 44) hx hb dX5_partsOnTwo_27 (by decide) (fun _ => ?_) (fun c_4 => absurd (by decide) c_4)
      refine lv_lconst (v := 0) hx hb dX5_partsOnTwo_44 (by decide) ?_
      exact ret_l hx hb hr hlocks ⟨rfl, _, rfl, trivial⟩ (fun _ h => absurd h List.not_mem_nil) (Nat.le_refl _) (Nat.le_refl _) dX5_partsOnTwo_45
    · skip
      have tc_3 : ¬ 61 ≤ v.toInt := fun h => c_3 ((fa_le _ _).mpr h)
      refine lv_iload_n hx hb dX5_partsOnTwo_10 rfl (lv_at hl 2 rfl) ?_
      refine lv_if_lt (tgt := 24) hx hb dX5_partsOnTwo_11 (by decide) (fun c_5 => ?_) (fun c_5 => ?_)
      · skip
        have tc_5 : w.toInt < 0 := (fa_lt _ _).mp c_5
        refine lv_iconst (v := 0) hx hb dX5_partsOnTwo_24 (by decide) ?_
        refine lv_istore_n (lv' := [(3, .int 0), (0, .ref a), (1, .int v), (2, .int w)]) hx hb dX5_partsOnTwo_25 rfl hl (by decide) rfl (fun ls hl => ?_)
        refine lv_iload_n hx hb dX5_partsOnTwo_26 rfl (lv_at hl 0 rfl) ?_
        refine lv_if_eq (tgt := 44) hx hb dX5_partsOnTwo_27 (by decide) (fun _ => ?_) (fun c_6 => absurd (by decide) c_6)
        refine lv_lconst (v := 0) hx hb dX5_partsOnTwo_44 (by decide) ?_
        exact ret_l hx hb hr hlocks ⟨rfl, _, rfl, trivial⟩ (fun _ h => absurd h List.not_mem_nil) (Nat.le_refl _) (Nat.le_refl _) dX5_partsOnTwo_45
      · skip
        have tc_5 : ¬ w.toInt < 0 := fun h => c_5 ((fa_lt _ _).mpr h)
        refine lv_iload_n hx hb dX5_partsOnTwo_14 rfl (lv_at hl 2 rfl) ?_
        refine lv_bipush (v := 61) hx hb dX5_partsOnTwo_15 (by decide) ?_
        refine lv_icmp_ge (tgt := 24) hx hb dX5_partsOnTwo_17 (by decide) (fun c_7 => ?_) (fun c_7 => ?_)
        · skip
          have tc_7 : 61 ≤ w.toInt := (fa_le _ _).mp c_7
          refine lv_iconst (v := 0) hx hb dX5_partsOnTwo_24 (by decide) ?_
          refine lv_istore_n (lv' := [(3, .int 0), (0, .ref a), (1, .int v), (2, .int w)]) hx hb dX5_partsOnTwo_25 rfl hl (by decide) rfl (fun ls hl => ?_)
          refine lv_iload_n hx hb dX5_partsOnTwo_26 rfl (lv_at hl 0 rfl) ?_
          refine lv_if_eq (tgt := 44) hx hb dX5_partsOnTwo_27 (by decide) (fun _ => ?_) (fun c_8 => absurd (by decide) c_8)
          refine lv_lconst (v := 0) hx hb dX5_partsOnTwo_44 (by decide) ?_
          exact ret_l hx hb hr hlocks ⟨rfl, _, rfl, trivial⟩ (fun _ h => absurd h List.not_mem_nil) (Nat.le_refl _) (Nat.le_refl _) dX5_partsOnTwo_45
        · skip
          have tc_7 : ¬ 61 ≤ w.toInt := fun h => c_7 ((fa_le _ _).mpr h)
          refine lv_iconst (v := 1) hx hb dX5_partsOnTwo_20 (by decide) ?_
          refine lv_goto (tgt := 25) hx hb dX5_partsOnTwo_21 (by decide) ?_
          refine lv_istore_n (lv' := [(3, .int 1), (0, .ref a), (1, .int v), (2, .int w)]) hx hb dX5_partsOnTwo_25 rfl hl (by decide) rfl (fun ls hl => ?_)
          refine lv_iload_n hx hb dX5_partsOnTwo_26 rfl (lv_at hl 0 rfl) ?_
          refine lv_if_eq (tgt := 44) hx hb dX5_partsOnTwo_27 (by decide) (fun c_9 => absurd c_9 (by decide)) (fun _ => ?_)
          refine lv_aload_n hx hb dX5_partsOnTwo_30 rfl (lv_at hl 1 rfl) ?_
          refine t_getr cf_8 hx hb hts hown hK hT h_a (k := 1) (P := fun q => τ q = 33) rfl (fun _ h9 => h9) fl_X5_15 (fun _ h9 => h9) dX5_partsOnTwo_31 (fun q_10 eq_10 hq_10 => ?_)
          refine lv_iload_n hx hb dX5_partsOnTwo_34 rfl (lv_at hl 2 rfl) ?_
          refine lv_bipush (v := 61) hx hb dX5_partsOnTwo_35 (by decide) ?_
          refine lv_imul hx hb dX5_partsOnTwo_37 ?_
          refine lv_topi (fun z_11 ez_11 => ?_)
          have tz_11 : z_11.toInt = v.toInt * 61 := mul_t ez_11 (show -2147483648 ≤ v.toInt * 61 by omega) (show v.toInt * 61 < 2147483648 by omega)
          refine lv_iload_n hx hb dX5_partsOnTwo_38 rfl (lv_at hl 3 rfl) ?_
          refine lv_iadd hx hb dX5_partsOnTwo_39 ?_
          refine lv_topi (fun z_12 ez_12 => ?_)
          have tz_12 : z_12.toInt = z_11.toInt + w.toInt := add_t ez_12 (show -2147483648 ≤ z_11.toInt + w.toInt by omega) (show z_11.toInt + w.toInt < 2147483648 by omega)
          refine t_lald (n := 3721) (i := z_12) rfl (by decide) hx hb hK hT hq_10 (hT.len hq_10 (by decide)) ⟨by omega, by omega⟩ dX5_partsOnTwo_40 (fun z_13 ez_13 => ?_)
          refine lv_goto (tgt := 45) hx hb dX5_partsOnTwo_41 (by decide) ?_
          exact ret_l hx hb hr hlocks ⟨rfl, _, rfl, trivial⟩ (fun _ h => absurd h List.not_mem_nil) (Nat.le_refl _) (Nat.le_refl _) dX5_partsOnTwo_45
set_option maxHeartbeats 4000000 in
set_option maxRecDepth 100000 in
theorem t_X5_partsOfWay (l : Launch) (D : va_G) (cy : Nat → ClassId) (base : Nat) (τ : Nat → Nat) (G : Gh) (a : Nat) (h_a : τ a = 8) (v : Int32) : MM l yX5_partsOfWay cX5_partsOfWay 2 (some .long) 0 0 0 D cy [.ref a, .int v] (PT D cy base τ G) (PuL (fun r => True)) noF := by
  refine MM.of (by decide) (Nat.le_of_ble_eq_true rfl) ?_
  intro p e s m below meth c C hPT ls hl
  obtain ⟨hx, hb, hr, hml, hown, hts, hlocks, hK, hnm⟩ := C
  obtain ⟨hZ, hT⟩ := hPT
  have hS : va_S (RA base) s.heap s.heap [] := va_S.rf
  have hl : lv_has ls 2 [(0, .ref a), (1, .int v)] := hl
  refine lv_iload_n hx hb dX5_partsOfWay_0 rfl (lv_at hl 1 rfl) ?_
  refine lv_if_lt (tgt := 26) hx hb dX5_partsOfWay_1 (by decide) (fun c_1 => ?_) (fun c_1 => ?_)
  · skip
    have tc_1 : v.toInt < 0 := (fa_lt _ _).mp c_1
    refine lv_lconst (v := 0) hx hb dX5_partsOfWay_26 (by decide) ?_
    exact ret_l hx hb hr hlocks ⟨rfl, _, rfl, trivial⟩ (fun _ h => absurd h List.not_mem_nil) (Nat.le_refl _) (Nat.le_refl _) dX5_partsOfWay_27
  · skip
    have tc_1 : ¬ v.toInt < 0 := fun h => c_1 ((fa_lt _ _).mpr h)
    refine lv_iload_n hx hb dX5_partsOfWay_4 rfl (lv_at hl 1 rfl) ?_
    refine lv_bipush (v := 64) hx hb dX5_partsOfWay_5 (by decide) ?_
    refine lv_icmp_ge (tgt := 26) hx hb dX5_partsOfWay_7 (by decide) (fun c_2 => ?_) (fun c_2 => ?_)
    · skip
      have tc_2 : 64 ≤ v.toInt := (fa_le _ _).mp c_2
      refine lv_lconst (v := 0) hx hb dX5_partsOfWay_26 (by decide) ?_
      exact ret_l hx hb hr hlocks ⟨rfl, _, rfl, trivial⟩ (fun _ h => absurd h List.not_mem_nil) (Nat.le_refl _) (Nat.le_refl _) dX5_partsOfWay_27
    · skip
      have tc_2 : ¬ 64 ≤ v.toInt := fun h => c_2 ((fa_le _ _).mpr h)
      refine lv_aload_n hx hb dX5_partsOfWay_10 rfl (lv_at hl 0 rfl) ?_
      refine t_getr cf_8 hx hb hts hown hK hT h_a (k := 4) (P := fun q => τ q = 35) rfl (fun _ h9 => h9) fl_X5_24 (fun _ h9 => h9) dX5_partsOfWay_11 (fun q_3 eq_3 hq_3 => ?_)
      refine lv_iload_n hx hb dX5_partsOfWay_14 rfl (lv_at hl 1 rfl) ?_
      refine t_lald (n := 64) (i := v) rfl (by decide) hx hb hK hT hq_3 (hT.len hq_3 (by decide)) ⟨by omega, by omega⟩ dX5_partsOfWay_15 (fun z_4 ez_4 => ?_)
      refine lv_aload_n hx hb dX5_partsOfWay_16 rfl (lv_at hl 0 rfl) ?_
      refine t_getr cf_8 hx hb hts hown hK hT h_a (k := 5) (P := fun q => τ q = 35) rfl (fun _ h9 => h9) fl_X5_27 (fun _ h9 => h9) dX5_partsOfWay_17 (fun q_5 eq_5 hq_5 => ?_)
      refine lv_iload_n hx hb dX5_partsOfWay_20 rfl (lv_at hl 1 rfl) ?_
      refine t_lald (n := 64) (i := v) rfl (by decide) hx hb hK hT hq_5 (hT.len hq_5 (by decide)) ⟨by omega, by omega⟩ dX5_partsOfWay_21 (fun z_6 ez_6 => ?_)
      refine lv_ladd hx hb dX5_partsOfWay_22 ?_
      refine lv_topl (fun z_7 ez_7 => ?_)
      refine lv_goto (tgt := 27) hx hb dX5_partsOfWay_23 (by decide) ?_
      exact ret_l hx hb hr hlocks ⟨rfl, _, rfl, trivial⟩ (fun _ h => absurd h List.not_mem_nil) (Nat.le_refl _) (Nat.le_refl _) dX5_partsOfWay_27
set_option maxHeartbeats 4000000 in
set_option maxRecDepth 100000 in
theorem t_X5_followOne (l : Launch) (D : va_G) (cy : Nat → ClassId) (base : Nat) (τ : Nat → Nat) (G : Gh) (a : Nat) (h_a : τ a = 8) (b : Nat) (h_b : τ b = 7) (v : Int32) : MM l yX5_followOne cX5_followOne 10 none 2 0 0 D cy [.ref a, .ref b, .int v] (PT D cy base τ G) (QT D cy base τ G [32] (fun v g => v = none ∧ (True))) (RA base) := by
  refine MM.of (by decide) (Nat.le_of_ble_eq_true rfl) ?_
  intro p e s m below meth c C hPT ls hl
  obtain ⟨hx, hb, hr, hml, hown, hts, hlocks, hK, hnm⟩ := C
  obtain ⟨hZ, hT⟩ := hPT
  have hS : va_S (RA base) s.heap s.heap [] := va_S.rf
  have hF : Fr τ [32] G G := Fr.rf
  have hl : lv_has ls 10 [(0, .ref a), (1, .ref b), (2, .int v)] := hl
  refine lv_aload_n hx hb dX5_followOne_0 rfl (lv_at hl 0 rfl) ?_
  refine t_getr cf_8 hx hb hts hown hK hT h_a (k := 0) (P := fun q => τ q = 32) rfl (fun _ h9 => h9) fl_X5_11 (fun _ h9 => h9) dX5_followOne_1 (fun q_1 eq_1 hq_1 => ?_)
  refine lv_lconst (v := 0) hx hb dX5_followOne_4 (by decide) ?_
  refine t_callv (runS (As := [.ref q_1, .long 0]) (rest := []) ⟨hx, hb, hml, hown, hts⟩ (t_J7_fill_d0a16_32 l D cy base τ G q_1 hq_1 0) sS_X5_33 hK ⟨Nat.le_trans hZ hS.1, hT⟩ ⟨Nat.le_of_ble_eq_true rfl, Nat.le_of_ble_eq_true rfl⟩ rfl hl.1 rfl (Nat.le_of_ble_eq_true rfl) dX5_followOne_5 ⟨Nat.le_of_ble_eq_true rfl, Nat.le_of_ble_eq_true rfl⟩) hS (fun G_2 H locs hF_2 hr_2 hT hS => ?_)
  have hF := hF.tr hF_2 rfl
  refine lv_aload_n hx hb dX5_followOne_8 rfl (lv_at hl 1 rfl) ?_
  refine lv_iload_n hx hb dX5_followOne_9 rfl (lv_at hl 2 rfl) ?_
  refine pu_calli (runV (As := [.int v]) (rest := []) ⟨hx, hb, hml, hown, hts⟩ (t_X2_hasValley l D cy base τ G_2 b h_b v) sV_X5_39 hK (t_recv cf_7 hK hT h_b) ⟨Nat.le_trans hZ hS.1, hT⟩ ⟨Nat.le_of_ble_eq_true rfl, Nat.le_of_ble_eq_true rfl⟩ rfl hl.1 rfl (Nat.le_of_ble_eq_true rfl) dX5_followOne_10 ⟨Nat.le_of_ble_eq_true rfl, Nat.le_of_ble_eq_true rfl⟩) (fun r_3 hr_3 => ?_)
  have hr_3_c := hr_3
  rcases hr_3_c with hr_3_0 | hr_3_1
  · skip
    obtain ⟨er_3, hr_3_0_f0, hr_3_0_f1⟩ := hr_3_0
    have hr_3_0_f0 : 0 ≤ v.toInt := hr_3_0_f0
    have hr_3_0_f1 : v.toInt ≤ 5 := hr_3_0_f1
    subst er_3
    refine W.eq (g2 := F0 m 13 ls [.int 1]) rfl ?_
    refine lv_if_ne (tgt := 17) hx hb dX5_followOne_13 (by decide) (fun _ => ?_) (fun c_4 => absurd c_4 (by decide))
    refine lv_lconst (v := 0) hx hb dX5_followOne_17 (by decide) ?_
    refine lv_lstore_n (lv' := [(3, .long 0), (0, .ref a), (1, .ref b), (2, .int v)]) hx hb dX5_followOne_18 rfl hl (by decide) rfl (fun ls hl => ?_)
    refine lv_ldc2 (v := 1000000000000) hx hb hown (hts _ kl_X5_45) dX5_followOne_19 ?_
    refine lv_lstore (lv' := [(5, .long 1000000000000), (3, .long 0), (0, .ref a), (1, .ref b), (2, .int v)]) hx hb dX5_followOne_22 hl (by decide) rfl (fun ls hl => ?_)
    refine lv_iconst (v := 1) hx hb dX5_followOne_24 (by decide) ?_
    refine lv_istore (lv' := [(7, .int 1), (5, .long 1000000000000), (3, .long 0), (0, .ref a), (1, .ref b), (2, .int v)]) hx hb dX5_followOne_25 hl (by decide) rfl (fun ls hl => ?_)
    refine W.loop (σ := Int64 × Int64 × Int32 × Gh) (fun w5 H locs ls => 1 ≤ w5.2.2.1.toInt ∧ w5.2.2.1.toInt ≤ 61 ∧ Fr τ [32] G w5.2.2.2 ∧ TY D cy base τ w5.2.2.2 H ∧ va_S (RA base) s.heap H locs ∧ lv_has ls 10 [(3, .long w5.1), (5, .long w5.2.1), (7, .int w5.2.2.1), (0, .ref a), (1, .ref b), (2, .int v)]) (fun w5 => (61 - w5.2.2.1.toInt).toNat) ?_ ((0 : Int64), (1000000000000 : Int64), (1 : Int32), G_2) _ _ _ ⟨(by show 1 ≤ (1 : Int32).toInt; decide), (by show (1 : Int32).toInt ≤ 61; decide), hF, hT, hS, lv_sub hl [2, 1, 0, 3, 4, 5] rfl⟩
    intro w5 H locs ls hI ih5
    obtain ⟨x5_3, x5_5, x5_7, G_5⟩ := w5
    obtain ⟨i5_0, i5_1, hF, hT, hS, hl⟩ := hI
    have i5_0 : 1 ≤ x5_7.toInt := i5_0
    have i5_1 : x5_7.toInt ≤ 61 := i5_1
    have hF : Fr τ [32] G G_5 := hF
    have hT : TY D cy base τ G_5 H := hT
    have hS : va_S (RA base) s.heap H locs := hS
    have hl : lv_has ls 10 [(3, .long x5_3), (5, .long x5_5), (7, .int x5_7), (0, .ref a), (1, .ref b), (2, .int v)] := hl
    refine lv_iload hx hb dX5_followOne_27 (lv_at hl 2 rfl) ?_
    refine lv_aload_n hx hb dX5_followOne_29 rfl (lv_at hl 4 rfl) ?_
    refine t_geti cf_7 hx hb hts hown hK hT h_b (k := 1) rfl fl_X5_47 (fun _ h9 => h9) dX5_followOne_30 (fun z_6 ez_6 rz_6 => ?_)
    have ez_6 : z_6 = G_5.1 b 1 := ez_6
    have rz_6 : 0 ≤ z_6.toInt ∧ z_6.toInt ≤ 60 := rz_6
    have ez_6 : z_6 = G.1 b 1 := ez_6.trans (hF.i h_b (by decide) rfl _)
    refine lv_icmp_gt (tgt := 98) hx hb dX5_followOne_33 (by decide) (fun c_7 => ?_) (fun c_7 => ?_)
    · skip
      have tc_7 : z_6.toInt < x5_7.toInt := (fa_lt _ _).mp c_7
      refine lv_aload_n hx hb dX5_followOne_98 rfl (lv_at hl 3 rfl) ?_
      refine t_getr cf_8 hx hb hts hown hK hT h_a (k := 0) (P := fun q => τ q = 32) rfl (fun _ h9 => h9) fl_X5_11 (fun _ h9 => h9) dX5_followOne_99 (fun q_8 eq_8 hq_8 => ?_)
      have w_9 : q_1 = q_8 := Option.some.inj (eq_1.symm.trans ((hF.r h_a (by decide) rfl _).symm.trans eq_8))
      subst w_9
      refine lv_iconst (v := 0) hx hb dX5_followOne_102 (by decide) ?_
      refine lv_lload_n hx hb dX5_followOne_103 rfl (lv_at hl 0 rfl) ?_
      refine lv_lload hx hb dX5_followOne_104 (lv_at hl 1 rfl) ?_
      refine lv_ladd hx hb dX5_followOne_106 ?_
      refine lv_topl (fun z_10 ez_10 => ?_)
      refine t_last (n := 61) (i := 0) (x := z_10) rfl (by decide) hx hb hK hT hS hq_1 (hT.len hq_1 (by decide)) ⟨by decide, by decide⟩ dX5_followOne_107 (fun H locs G_11 eG_11 hT hS => ?_)
      have hF := hF.wL eG_11 hq_1 rfl
      exact ret_v hx hb hr hlocks ⟨⟨hS.1, hS.2.1⟩, G_11, hF, ⟨rfl, trivial⟩, hT⟩ hS.2.2 (Nat.le_of_ble_eq_true rfl) (Nat.le_of_ble_eq_true rfl) dX5_followOne_108
    · skip
      have tc_7 : ¬ z_6.toInt < x5_7.toInt := fun h => c_7 ((fa_lt _ _).mpr h)
      refine lv_iload hx hb dX5_followOne_36 (lv_at hl 2 rfl) ?_
      refine lv_bipush (v := 61) hx hb dX5_followOne_38 (by decide) ?_
      refine lv_icmp_ge (tgt := 98) hx hb dX5_followOne_40 (by decide) (fun c_12 => ?_) (fun c_12 => ?_)
      · skip
        have tc_12 : 61 ≤ x5_7.toInt := (fa_le _ _).mp c_12
        exfalso; omega
      · skip
        have tc_12 : ¬ 61 ≤ x5_7.toInt := fun h => c_12 ((fa_le _ _).mpr h)
        refine lv_aload_n hx hb dX5_followOne_43 rfl (lv_at hl 4 rfl) ?_
        refine lv_iload hx hb dX5_followOne_44 (lv_at hl 2 rfl) ?_
        refine lv_lload_n hx hb dX5_followOne_46 rfl (lv_at hl 0 rfl) ?_
        refine lv_lload hx hb dX5_followOne_47 (lv_at hl 1 rfl) ?_
        refine pu_calll (runS (As := [.ref b, .int x5_7, .long x5_3, .long x5_5]) (rest := []) ⟨hx, hb, hml, hown, hts⟩ (t_X5_snowing l D cy base τ G_5 b h_b x5_7 x5_3 x5_5) sS_X5_51 hK ⟨Nat.le_trans hZ hS.1, hT⟩ ⟨Nat.le_of_ble_eq_true rfl, Nat.le_of_ble_eq_true rfl⟩ rfl hl.1 rfl (Nat.le_of_ble_eq_true rfl) dX5_followOne_49 ⟨Nat.le_of_ble_eq_true rfl, Nat.le_of_ble_eq_true rfl⟩) (fun r_13 hr_13 => ?_)
        refine lv_lstore (lv' := [(8, .long r_13), (3, .long x5_3), (5, .long x5_5), (7, .int x5_7), (0, .ref a), (1, .ref b), (2, .int v)]) hx hb dX5_followOne_52 hl (by decide) rfl (fun ls hl => ?_)
        refine lv_lload_n hx hb dX5_followOne_54 rfl (lv_at hl 1 rfl) ?_
        refine lv_lload hx hb dX5_followOne_55 (lv_at hl 2 rfl) ?_
        refine lv_ladd hx hb dX5_followOne_57 ?_
        refine lv_topl (fun z_14 ez_14 => ?_)
        refine lv_lload hx hb dX5_followOne_58 (lv_at hl 0 rfl) ?_
        refine lv_lsub hx hb dX5_followOne_60 ?_
        refine lv_topl (fun z_15 ez_15 => ?_)
        refine lv_lstore (lv' := [(5, .long z_15), (8, .long r_13), (3, .long x5_3), (7, .int x5_7), (0, .ref a), (1, .ref b), (2, .int v)]) hx hb dX5_followOne_61 hl (by decide) rfl (fun ls hl => ?_)
        refine lv_aload_n hx hb dX5_followOne_63 rfl (lv_at hl 4 rfl) ?_
        refine t_getr cf_8 hx hb hts hown hK hT h_a (k := 0) (P := fun q => τ q = 32) rfl (fun _ h9 => h9) fl_X5_11 (fun _ h9 => h9) dX5_followOne_64 (fun q_16 eq_16 hq_16 => ?_)
        have w_17 : q_1 = q_16 := Option.some.inj (eq_1.symm.trans ((hF.r h_a (by decide) rfl _).symm.trans eq_16))
        subst w_17
        refine lv_iload hx hb dX5_followOne_67 (lv_at hl 3 rfl) ?_
        refine lv_lload hx hb dX5_followOne_69 (lv_at hl 1 rfl) ?_
        refine lv_aload_n hx hb dX5_followOne_71 rfl (lv_at hl 5 rfl) ?_
        refine t_getr cf_7 hx hb hts hown hK hT h_b (k := 17) (P := fun q => τ q = 27) rfl (fun _ h9 => h9) fl_X5_55 (fun _ h9 => h9) dX5_followOne_72 (fun q_18 eq_18 hq_18 => ?_)
        have eq_18 := (hF.r h_b (by decide) rfl _).symm.trans eq_18
        refine lv_iload_n hx hb dX5_followOne_75 rfl (lv_at hl 6 rfl) ?_
        refine t_iald (n := 6) (i := v) rfl (by decide) hx hb hK hT hq_18 (hT.len hq_18 (by decide)) ⟨by omega, by omega⟩ dX5_followOne_76 (fun z_19 ez_19 rz_19 => ?_)
        have ez_19 : z_19 = G.1 q_18 v.toNatClampNeg := ez_19.trans (hF.i hq_18 (by decide) rfl _)
        refine pu_calll (runS (As := [.long r_13, .int z_19]) (rest := [.int x5_7, .ref q_1]) ⟨hx, hb, hml, hown, hts⟩ (t_X5_hundredths l D cy base τ G_5 r_13 z_19) sS_X5_59 hK ⟨Nat.le_trans hZ hS.1, hT⟩ ⟨Nat.le_of_ble_eq_true rfl, Nat.le_of_ble_eq_true rfl⟩ rfl hl.1 rfl (Nat.le_of_ble_eq_true rfl) dX5_followOne_77 ⟨Nat.le_of_ble_eq_true rfl, Nat.le_of_ble_eq_true rfl⟩) (fun r_20 hr_20 => ?_)
        refine t_last (n := 61) (i := x5_7) (x := r_20) rfl (by decide) hx hb hK hT hS hq_1 (hT.len hq_1 (by decide)) ⟨by omega, by omega⟩ dX5_followOne_80 (fun H locs G_21 eG_21 hT hS => ?_)
        have hF := hF.wL eG_21 hq_1 rfl
        refine lv_lload hx hb dX5_followOne_81 (lv_at hl 1 rfl) ?_
        refine lv_aload_n hx hb dX5_followOne_83 rfl (lv_at hl 4 rfl) ?_
        refine t_getr cf_8 hx hb hts hown hK hT h_a (k := 0) (P := fun q => τ q = 32) rfl (fun _ h9 => h9) fl_X5_11 (fun _ h9 => h9) dX5_followOne_84 (fun q_22 eq_22 hq_22 => ?_)
        have w_23 : q_1 = q_22 := Option.some.inj (eq_1.symm.trans ((hF.r h_a (by decide) rfl _).symm.trans eq_22))
        subst w_23
        refine lv_iload hx hb dX5_followOne_87 (lv_at hl 3 rfl) ?_
        refine t_lald (n := 61) (i := x5_7) rfl (by decide) hx hb hK hT hq_1 (hT.len hq_1 (by decide)) ⟨by omega, by omega⟩ dX5_followOne_89 (fun z_24 ez_24 => ?_)
        refine lv_lsub hx hb dX5_followOne_90 ?_
        refine lv_topl (fun z_25 ez_25 => ?_)
        refine lv_lstore_n (lv' := [(3, .long z_25), (5, .long z_15), (8, .long r_13), (7, .int x5_7), (0, .ref a), (1, .ref b), (2, .int v)]) hx hb dX5_followOne_91 rfl hl (by decide) rfl (fun ls hl => ?_)
        obtain ⟨z_26, ez_26⟩ : ∃ y : Int32, y = x5_7 + 1 := ⟨_, rfl⟩
        have tz_26 : z_26.toInt = x5_7.toInt + 1 := add_t ez_26 (show -2147483648 ≤ x5_7.toInt + 1 by omega) (show x5_7.toInt + 1 < 2147483648 by omega)
        refine lv_iinc (v := z_26) (lv' := [(7, .int z_26), (3, .long z_25), (5, .long z_15), (8, .long r_13), (0, .ref a), (1, .ref b), (2, .int v)]) hx hb dX5_followOne_92 hl (k := 3) rfl (by rw [ez_26]; rfl) (by decide) rfl (fun ls hl => ?_)
        refine lv_goto (tgt := 27) hx hb dX5_followOne_95 (by decide) ?_
        exact ih5 (z_25, z_15, z_26, G_21) _ _ _ (by show (61 - z_26.toInt).toNat < (61 - x5_7.toInt).toNat; omega) ⟨(by show 1 ≤ z_26.toInt; omega), (by show z_26.toInt ≤ 61; omega), hF, hT, hS, lv_sub hl [1, 2, 0, 4, 5, 6] rfl⟩
  · skip
    have er_3 := hr_3_1
    subst er_3
    refine W.eq (g2 := F0 m 13 ls [.int 0]) rfl ?_
    refine lv_if_ne (tgt := 17) hx hb dX5_followOne_13 (by decide) (fun c_27 => absurd rfl c_27) (fun _ => ?_)
    exact ret_v hx hb hr hlocks ⟨⟨hS.1, hS.2.1⟩, G_2, hF, ⟨rfl, trivial⟩, hT⟩ hS.2.2 (Nat.le_of_ble_eq_true rfl) (Nat.le_of_ble_eq_true rfl) dX5_followOne_16
set_option maxHeartbeats 4000000 in
set_option maxRecDepth 100000 in
theorem t_X5_skyOfTwo (l : Launch) (D : va_G) (cy : Nat → ClassId) (base : Nat) (τ : Nat → Nat) (G : Gh) (a : Nat) (h_a : τ a = 8) (b : Nat) (h_b : τ b = 7) (v : Int32) (w : Int32) (r_w : 0 ≤ w.toInt ∧ w.toInt ≤ 121) : MM l yX5_skyOfTwo cX5_skyOfTwo 6 (some .long) 2 0 0 D cy [.ref a, .ref b, .int v, .int w] (PT D cy base τ G) (QT D cy base τ G [34] (fun v g => ∃ r : Int64, v = some (.long r) ∧ (True))) (RA base) := by
  refine MM.of (by decide) (Nat.le_of_ble_eq_true rfl) ?_
  intro p e s m below meth c C hPT ls hl
  obtain ⟨hx, hb, hr, hml, hown, hts, hlocks, hK, hnm⟩ := C
  obtain ⟨hZ, hT⟩ := hPT
  have hS : va_S (RA base) s.heap s.heap [] := va_S.rf
  have hF : Fr τ [34] G G := Fr.rf
  have hl : lv_has ls 6 [(0, .ref a), (1, .ref b), (2, .int v), (3, .int w)] := hl
  refine lv_aload_n hx hb dX5_skyOfTwo_0 rfl (lv_at hl 1 rfl) ?_
  refine lv_iload_n hx hb dX5_skyOfTwo_1 rfl (lv_at hl 2 rfl) ?_
  refine lv_aload_n hx hb dX5_skyOfTwo_2 rfl (lv_at hl 0 rfl) ?_
  refine t_getr cf_8 hx hb hts hown hK hT h_a (k := 2) (P := fun q => τ q = 34) rfl (fun _ h9 => h9) fl_X5_18 (fun _ h9 => h9) dX5_skyOfTwo_3 (fun q_1 eq_1 hq_1 => ?_)
  refine lv_iload_n hx hb dX5_skyOfTwo_6 rfl (lv_at hl 3 rfl) ?_
  refine t_lald (n := 122) (i := w) rfl (by decide) hx hb hK hT hq_1 (hT.len hq_1 (by decide)) ⟨by omega, by omega⟩ dX5_skyOfTwo_7 (fun z_2 ez_2 => ?_)
  refine lv_aload_n hx hb dX5_skyOfTwo_8 rfl (lv_at hl 0 rfl) ?_
  refine t_getr cf_8 hx hb hts hown hK hT h_a (k := 3) (P := fun q => τ q = 34) rfl (fun _ h9 => h9) fl_X5_21 (fun _ h9 => h9) dX5_skyOfTwo_9 (fun q_3 eq_3 hq_3 => ?_)
  refine lv_iload_n hx hb dX5_skyOfTwo_12 rfl (lv_at hl 3 rfl) ?_
  refine t_lald (n := 122) (i := w) rfl (by decide) hx hb hK hT hq_3 (hT.len hq_3 (by decide)) ⟨by omega, by omega⟩ dX5_skyOfTwo_13 (fun z_4 ez_4 => ?_)
  refine pu_calll (runS (As := [.ref b, .int v, .long z_2, .long z_4]) (rest := []) ⟨hx, hb, hml, hown, hts⟩ (t_X5_snowing l D cy base τ G b h_b v z_2 z_4) sS_X5_51 hK ⟨Nat.le_trans hZ hS.1, hT⟩ ⟨Nat.le_of_ble_eq_true rfl, Nat.le_of_ble_eq_true rfl⟩ rfl hl.1 rfl (Nat.le_of_ble_eq_true rfl) dX5_skyOfTwo_14 ⟨Nat.le_of_ble_eq_true rfl, Nat.le_of_ble_eq_true rfl⟩) (fun r_5 hr_5 => ?_)
  refine lv_lstore (lv' := [(4, .long r_5), (0, .ref a), (1, .ref b), (2, .int v), (3, .int w)]) hx hb dX5_skyOfTwo_17 hl (by decide) rfl (fun ls hl => ?_)
  refine lv_aload_n hx hb dX5_skyOfTwo_19 rfl (lv_at hl 1 rfl) ?_
  refine t_getr cf_8 hx hb hts hown hK hT h_a (k := 3) (P := fun q => τ q = 34) rfl (fun _ h9 => h9) fl_X5_21 (fun _ h9 => h9) dX5_skyOfTwo_20 (fun q_6 eq_6 hq_6 => ?_)
  have w_7 : q_3 = q_6 := Option.some.inj (eq_3.symm.trans eq_6)
  subst w_7
  refine lv_iload_n hx hb dX5_skyOfTwo_23 rfl (lv_at hl 4 rfl) ?_
  refine lv_aload_n hx hb dX5_skyOfTwo_24 rfl (lv_at hl 1 rfl) ?_
  refine t_getr cf_8 hx hb hts hown hK hT h_a (k := 2) (P := fun q => τ q = 34) rfl (fun _ h9 => h9) fl_X5_18 (fun _ h9 => h9) dX5_skyOfTwo_25 (fun q_8 eq_8 hq_8 => ?_)
  have w_9 : q_1 = q_8 := Option.some.inj (eq_1.symm.trans eq_8)
  subst w_9
  refine lv_iload_n hx hb dX5_skyOfTwo_28 rfl (lv_at hl 4 rfl) ?_
  refine t_lald (n := 122) (i := w) rfl (by decide) hx hb hK hT hq_1 (hT.len hq_1 (by decide)) ⟨by omega, by omega⟩ dX5_skyOfTwo_29 (fun z_10 ez_10 => ?_)
  refine lv_aload_n hx hb dX5_skyOfTwo_30 rfl (lv_at hl 1 rfl) ?_
  refine t_getr cf_8 hx hb hts hown hK hT h_a (k := 3) (P := fun q => τ q = 34) rfl (fun _ h9 => h9) fl_X5_21 (fun _ h9 => h9) dX5_skyOfTwo_31 (fun q_11 eq_11 hq_11 => ?_)
  have w_12 : q_3 = q_11 := Option.some.inj (eq_3.symm.trans eq_11)
  subst w_12
  refine lv_iload_n hx hb dX5_skyOfTwo_34 rfl (lv_at hl 4 rfl) ?_
  refine t_lald (n := 122) (i := w) rfl (by decide) hx hb hK hT hq_3 (hT.len hq_3 (by decide)) ⟨by omega, by omega⟩ dX5_skyOfTwo_35 (fun z_13 ez_13 => ?_)
  refine lv_ladd hx hb dX5_skyOfTwo_36 ?_
  refine lv_topl (fun z_14 ez_14 => ?_)
  refine lv_lload hx hb dX5_skyOfTwo_37 (lv_at hl 0 rfl) ?_
  refine lv_lsub hx hb dX5_skyOfTwo_39 ?_
  refine lv_topl (fun z_15 ez_15 => ?_)
  refine t_last (n := 122) (i := w) (x := z_15) rfl (by decide) hx hb hK hT hS hq_3 (hT.len hq_3 (by decide)) ⟨by omega, by omega⟩ dX5_skyOfTwo_40 (fun H locs G_16 eG_16 hT hS => ?_)
  have hF := hF.wL eG_16 hq_3 rfl
  refine lv_lload hx hb dX5_skyOfTwo_41 (lv_at hl 0 rfl) ?_
  exact ret_l hx hb hr hlocks ⟨⟨hS.1, hS.2.1⟩, G_16, hF, ⟨_, rfl, trivial⟩, hT⟩ hS.2.2 (Nat.le_of_ble_eq_true rfl) (Nat.le_of_ble_eq_true rfl) dX5_skyOfTwo_43
set_option maxHeartbeats 4000000 in
set_option maxRecDepth 100000 in
theorem t_X5_shutSecond (l : Launch) (D : va_G) (cy : Nat → ClassId) (base : Nat) (τ : Nat → Nat) (G : Gh) (a : Nat) (h_a : τ a = 8) (b : Nat) (h_b : τ b = 7) (v : Int32) (w : Int32) (r_w : 0 ≤ w.toInt ∧ w.toInt ≤ 121) (z : Int32) : MM l yX5_shutSecond cX5_shutSecond 9 (some .long) 3 0 0 D cy [.ref a, .ref b, .int v, .int w, .int z] (PT D cy base τ G) (QT D cy base τ G [34] (fun v g => ∃ r : Int64, v = some (.long r) ∧ (True))) (RA base) := by
  refine MM.of (by decide) (Nat.le_of_ble_eq_true rfl) ?_
  intro p e s m below meth c C hPT ls hl
  obtain ⟨hx, hb, hr, hml, hown, hts, hlocks, hK, hnm⟩ := C
  obtain ⟨hZ, hT⟩ := hPT
  have hS : va_S (RA base) s.heap s.heap [] := va_S.rf
  have hF : Fr τ [34] G G := Fr.rf
  have hl : lv_has ls 9 [(0, .ref a), (1, .ref b), (2, .int v), (3, .int w), (4, .int z)] := hl
  refine lv_aload_n hx hb dX5_shutSecond_0 rfl (lv_at hl 0 rfl) ?_
  refine lv_aload_n hx hb dX5_shutSecond_1 rfl (lv_at hl 1 rfl) ?_
  refine lv_iload_n hx hb dX5_shutSecond_2 rfl (lv_at hl 2 rfl) ?_
  refine lv_iload_n hx hb dX5_shutSecond_3 rfl (lv_at hl 3 rfl) ?_
  refine t_calll (runV (As := [.ref b, .int v, .int w]) (rest := []) ⟨hx, hb, hml, hown, hts⟩ (t_X5_skyOfTwo l D cy base τ G a h_a b h_b v w ⟨by omega, by omega⟩) sV_X5_75 hK (t_recv cf_8 hK hT h_a) ⟨Nat.le_trans hZ hS.1, hT⟩ ⟨Nat.le_of_ble_eq_true rfl, Nat.le_of_ble_eq_true rfl⟩ rfl hl.1 rfl (Nat.le_of_ble_eq_true rfl) dX5_shutSecond_4 ⟨Nat.le_of_ble_eq_true rfl, Nat.le_of_ble_eq_true rfl⟩) hS (fun r_1 G_1 H locs hF_1 hr_1 hT hS => ?_)
  have hF := hF.tr hF_1 rfl
  refine lv_lstore (lv' := [(5, .long r_1), (0, .ref a), (1, .ref b), (2, .int v), (3, .int w), (4, .int z)]) hx hb dX5_shutSecond_7 hl (by decide) rfl (fun ls hl => ?_)
  refine lv_lload hx hb dX5_shutSecond_9 (lv_at hl 0 rfl) ?_
  refine lv_iload hx hb dX5_shutSecond_11 (lv_at hl 5 rfl) ?_
  refine pu_calll (runS (As := [.long r_1, .int z]) (rest := []) ⟨hx, hb, hml, hown, hts⟩ (t_X5_hundredths l D cy base τ G_1 r_1 z) sS_X5_59 hK ⟨Nat.le_trans hZ hS.1, hT⟩ ⟨Nat.le_of_ble_eq_true rfl, Nat.le_of_ble_eq_true rfl⟩ rfl hl.1 rfl (Nat.le_of_ble_eq_true rfl) dX5_shutSecond_13 ⟨Nat.le_of_ble_eq_true rfl, Nat.le_of_ble_eq_true rfl⟩) (fun r_2 hr_2 => ?_)
  refine lv_lstore (lv' := [(7, .long r_2), (5, .long r_1), (0, .ref a), (1, .ref b), (2, .int v), (3, .int w), (4, .int z)]) hx hb dX5_shutSecond_16 hl (by decide) rfl (fun ls hl => ?_)
  refine lv_aload_n hx hb dX5_shutSecond_18 rfl (lv_at hl 2 rfl) ?_
  refine t_getr cf_8 hx hb hts hown hK hT h_a (k := 2) (P := fun q => τ q = 34) rfl (fun _ h9 => h9) fl_X5_18 (fun _ h9 => h9) dX5_shutSecond_19 (fun q_3 eq_3 hq_3 => ?_)
  have eq_3 := (hF.r h_a (by decide) rfl _).symm.trans eq_3
  refine lv_iload_n hx hb dX5_shutSecond_22 rfl (lv_at hl 5 rfl) ?_
  refine lv_lload hx hb dX5_shutSecond_23 (lv_at hl 1 rfl) ?_
  refine lv_lload hx hb dX5_shutSecond_25 (lv_at hl 0 rfl) ?_
  refine lv_lsub hx hb dX5_shutSecond_27 ?_
  refine lv_topl (fun z_4 ez_4 => ?_)
  refine t_last (n := 122) (i := w) (x := z_4) rfl (by decide) hx hb hK hT hS hq_3 (hT.len hq_3 (by decide)) ⟨by omega, by omega⟩ dX5_shutSecond_28 (fun H locs G_5 eG_5 hT hS => ?_)
  have hF := hF.wL eG_5 hq_3 rfl
  refine lv_lload hx hb dX5_shutSecond_29 (lv_at hl 0 rfl) ?_
  exact ret_l hx hb hr hlocks ⟨⟨hS.1, hS.2.1⟩, G_5, hF, ⟨_, rfl, trivial⟩, hT⟩ hS.2.2 (Nat.le_of_ble_eq_true rfl) (Nat.le_of_ble_eq_true rfl) dX5_shutSecond_31
set_option maxHeartbeats 4000000 in
set_option maxRecDepth 100000 in
theorem t_X5_splitBothOpen (l : Launch) (D : va_G) (cy : Nat → ClassId) (base : Nat) (τ : Nat → Nat) (G : Gh) (a : Nat) (h_a : τ a = 8) (b : Nat) (h_b : τ b = 7) (v : Int32) (r_v : 1 ≤ v.toInt ∧ v.toInt ≤ 60) (w : Int32) (z : Int32) : MM l yX5_splitBothOpen cX5_splitBothOpen 15 none 3 0 0 D cy [.ref a, .ref b, .int v, .int w, .int z] (PT D cy base τ G) (QT D cy base τ G [33, 34] (fun v g => v = none ∧ (True))) (RA base) := by
  refine MM.of (by decide) (Nat.le_of_ble_eq_true rfl) ?_
  intro p e s m below meth c C hPT ls hl
  obtain ⟨hx, hb, hr, hml, hown, hts, hlocks, hK, hnm⟩ := C
  obtain ⟨hZ, hT⟩ := hPT
  have hS : va_S (RA base) s.heap s.heap [] := va_S.rf
  have hF : Fr τ [33, 34] G G := Fr.rf
  have hl : lv_has ls 15 [(0, .ref a), (1, .ref b), (2, .int v), (3, .int w), (4, .int z)] := hl
  refine lv_aload_n hx hb dX5_splitBothOpen_0 rfl (lv_at hl 0 rfl) ?_
  refine lv_aload_n hx hb dX5_splitBothOpen_1 rfl (lv_at hl 1 rfl) ?_
  refine lv_iload_n hx hb dX5_splitBothOpen_2 rfl (lv_at hl 2 rfl) ?_
  refine lv_iconst (v := 0) hx hb dX5_splitBothOpen_3 (by decide) ?_
  refine t_calll (runV (As := [.ref b, .int v, .int 0]) (rest := []) ⟨hx, hb, hml, hown, hts⟩ (t_X5_skyOfTwo l D cy base τ G a h_a b h_b v 0 (by decide)) sV_X5_75 hK (t_recv cf_8 hK hT h_a) ⟨Nat.le_trans hZ hS.1, hT⟩ ⟨Nat.le_of_ble_eq_true rfl, Nat.le_of_ble_eq_true rfl⟩ rfl hl.1 rfl (Nat.le_of_ble_eq_true rfl) dX5_splitBothOpen_4 ⟨Nat.le_of_ble_eq_true rfl, Nat.le_of_ble_eq_true rfl⟩) hS (fun r_1 G_1 H locs hF_1 hr_1 hT hS => ?_)
  have hF := hF.tr hF_1 rfl
  refine lv_lstore (lv' := [(5, .long r_1), (0, .ref a), (1, .ref b), (2, .int v), (3, .int w), (4, .int z)]) hx hb dX5_splitBothOpen_7 hl (by decide) rfl (fun ls hl => ?_)
  refine lv_lload hx hb dX5_splitBothOpen_9 (lv_at hl 0 rfl) ?_
  refine lv_iload_n hx hb dX5_splitBothOpen_11 rfl (lv_at hl 4 rfl) ?_
  refine pu_calll (runS (As := [.long r_1, .int w]) (rest := []) ⟨hx, hb, hml, hown, hts⟩ (t_X5_hundredths l D cy base τ G_1 r_1 w) sS_X5_59 hK ⟨Nat.le_trans hZ hS.1, hT⟩ ⟨Nat.le_of_ble_eq_true rfl, Nat.le_of_ble_eq_true rfl⟩ rfl hl.1 rfl (Nat.le_of_ble_eq_true rfl) dX5_splitBothOpen_12 ⟨Nat.le_of_ble_eq_true rfl, Nat.le_of_ble_eq_true rfl⟩) (fun r_2 hr_2 => ?_)
  refine lv_lstore (lv' := [(7, .long r_2), (5, .long r_1), (0, .ref a), (1, .ref b), (2, .int v), (3, .int w), (4, .int z)]) hx hb dX5_splitBothOpen_15 hl (by decide) rfl (fun ls hl => ?_)
  refine lv_lload hx hb dX5_splitBothOpen_17 (lv_at hl 1 rfl) ?_
  refine lv_lload hx hb dX5_splitBothOpen_19 (lv_at hl 0 rfl) ?_
  refine lv_lsub hx hb dX5_splitBothOpen_21 ?_
  refine lv_topl (fun z_3 ez_3 => ?_)
  refine lv_lstore (lv' := [(9, .long z_3), (7, .long r_2), (5, .long r_1), (0, .ref a), (1, .ref b), (2, .int v), (3, .int w), (4, .int z)]) hx hb dX5_splitBothOpen_22 hl (by decide) rfl (fun ls hl => ?_)
  refine lv_lload hx hb dX5_splitBothOpen_24 (lv_at hl 1 rfl) ?_
  refine lv_iload hx hb dX5_splitBothOpen_26 (lv_at hl 7 rfl) ?_
  refine pu_calll (runS (As := [.long r_2, .int z]) (rest := []) ⟨hx, hb, hml, hown, hts⟩ (t_X5_hundredths l D cy base τ G_1 r_2 z) sS_X5_59 hK ⟨Nat.le_trans hZ hS.1, hT⟩ ⟨Nat.le_of_ble_eq_true rfl, Nat.le_of_ble_eq_true rfl⟩ rfl hl.1 rfl (Nat.le_of_ble_eq_true rfl) dX5_splitBothOpen_28 ⟨Nat.le_of_ble_eq_true rfl, Nat.le_of_ble_eq_true rfl⟩) (fun r_4 hr_4 => ?_)
  refine lv_lstore (lv' := [(11, .long r_4), (9, .long z_3), (7, .long r_2), (5, .long r_1), (0, .ref a), (1, .ref b), (2, .int v), (3, .int w), (4, .int z)]) hx hb dX5_splitBothOpen_31 hl (by decide) rfl (fun ls hl => ?_)
  refine lv_lload hx hb dX5_splitBothOpen_33 (lv_at hl 1 rfl) ?_
  refine lv_iload hx hb dX5_splitBothOpen_35 (lv_at hl 8 rfl) ?_
  refine pu_calll (runS (As := [.long z_3, .int z]) (rest := []) ⟨hx, hb, hml, hown, hts⟩ (t_X5_hundredths l D cy base τ G_1 z_3 z) sS_X5_59 hK ⟨Nat.le_trans hZ hS.1, hT⟩ ⟨Nat.le_of_ble_eq_true rfl, Nat.le_of_ble_eq_true rfl⟩ rfl hl.1 rfl (Nat.le_of_ble_eq_true rfl) dX5_splitBothOpen_37 ⟨Nat.le_of_ble_eq_true rfl, Nat.le_of_ble_eq_true rfl⟩) (fun r_5 hr_5 => ?_)
  refine lv_lstore (lv' := [(13, .long r_5), (11, .long r_4), (9, .long z_3), (7, .long r_2), (5, .long r_1), (0, .ref a), (1, .ref b), (2, .int v), (3, .int w), (4, .int z)]) hx hb dX5_splitBothOpen_40 hl (by decide) rfl (fun ls hl => ?_)
  refine lv_aload_n hx hb dX5_splitBothOpen_42 rfl (lv_at hl 5 rfl) ?_
  refine t_getr cf_8 hx hb hts hown hK hT h_a (k := 1) (P := fun q => τ q = 33) rfl (fun _ h9 => h9) fl_X5_15 (fun _ h9 => h9) dX5_splitBothOpen_43 (fun q_6 eq_6 hq_6 => ?_)
  have eq_6 := (hF.r h_a (by decide) rfl _).symm.trans eq_6
  refine lv_iload_n hx hb dX5_splitBothOpen_46 rfl (lv_at hl 7 rfl) ?_
  refine lv_bipush (v := 61) hx hb dX5_splitBothOpen_47 (by decide) ?_
  refine lv_imul hx hb dX5_splitBothOpen_49 ?_
  refine lv_topi (fun z_7 ez_7 => ?_)
  have tz_7 : z_7.toInt = v.toInt * 61 := mul_t ez_7 (show -2147483648 ≤ v.toInt * 61 by omega) (show v.toInt * 61 < 2147483648 by omega)
  refine lv_iload_n hx hb dX5_splitBothOpen_50 rfl (lv_at hl 7 rfl) ?_
  refine lv_iadd hx hb dX5_splitBothOpen_51 ?_
  refine lv_topi (fun z_8 ez_8 => ?_)
  have tz_8 : z_8.toInt = z_7.toInt + v.toInt := add_t ez_8 (show -2147483648 ≤ z_7.toInt + v.toInt by omega) (show z_7.toInt + v.toInt < 2147483648 by omega)
  refine lv_lload hx hb dX5_splitBothOpen_52 (lv_at hl 1 rfl) ?_
  refine t_last (n := 3721) (i := z_8) (x := r_4) rfl (by decide) hx hb hK hT hS hq_6 (hT.len hq_6 (by decide)) ⟨by omega, by omega⟩ dX5_splitBothOpen_54 (fun H locs G_9 eG_9 hT hS => ?_)
  have hF := hF.wL eG_9 hq_6 rfl
  refine lv_aload_n hx hb dX5_splitBothOpen_55 rfl (lv_at hl 5 rfl) ?_
  refine t_getr cf_8 hx hb hts hown hK hT h_a (k := 2) (P := fun q => τ q = 34) rfl (fun _ h9 => h9) fl_X5_18 (fun _ h9 => h9) dX5_splitBothOpen_56 (fun q_10 eq_10 hq_10 => ?_)
  have eq_10 := (hF.r h_a (by decide) rfl _).symm.trans eq_10
  refine lv_iload_n hx hb dX5_splitBothOpen_59 rfl (lv_at hl 7 rfl) ?_
  refine lv_lload hx hb dX5_splitBothOpen_60 (lv_at hl 3 rfl) ?_
  refine lv_lload hx hb dX5_splitBothOpen_62 (lv_at hl 1 rfl) ?_
  refine lv_lsub hx hb dX5_splitBothOpen_64 ?_
  refine lv_topl (fun z_11 ez_11 => ?_)
  refine t_last (n := 122) (i := v) (x := z_11) rfl (by decide) hx hb hK hT hS hq_10 (hT.len hq_10 (by decide)) ⟨by omega, by omega⟩ dX5_splitBothOpen_65 (fun H locs G_12 eG_12 hT hS => ?_)
  have hF := hF.wL eG_12 hq_10 rfl
  refine lv_aload_n hx hb dX5_splitBothOpen_66 rfl (lv_at hl 5 rfl) ?_
  refine t_getr cf_8 hx hb hts hown hK hT h_a (k := 2) (P := fun q => τ q = 34) rfl (fun _ h9 => h9) fl_X5_18 (fun _ h9 => h9) dX5_splitBothOpen_67 (fun q_13 eq_13 hq_13 => ?_)
  have w_14 : q_10 = q_13 := Option.some.inj (eq_10.symm.trans ((hF.r h_a (by decide) rfl _).symm.trans eq_13))
  subst w_14
  refine lv_bipush (v := 61) hx hb dX5_splitBothOpen_70 (by decide) ?_
  refine lv_iload_n hx hb dX5_splitBothOpen_72 rfl (lv_at hl 7 rfl) ?_
  refine lv_iadd hx hb dX5_splitBothOpen_73 ?_
  refine lv_topi (fun z_15 ez_15 => ?_)
  have tz_15 : z_15.toInt = 61 + v.toInt := add_t ez_15 (show -2147483648 ≤ 61 + v.toInt by omega) (show 61 + v.toInt < 2147483648 by omega)
  refine lv_lload hx hb dX5_splitBothOpen_74 (lv_at hl 0 rfl) ?_
  refine t_last (n := 122) (i := z_15) (x := r_5) rfl (by decide) hx hb hK hT hS hq_10 (hT.len hq_10 (by decide)) ⟨by omega, by omega⟩ dX5_splitBothOpen_76 (fun H locs G_16 eG_16 hT hS => ?_)
  have hF := hF.wL eG_16 hq_10 rfl
  refine lv_aload_n hx hb dX5_splitBothOpen_77 rfl (lv_at hl 5 rfl) ?_
  refine t_getr cf_8 hx hb hts hown hK hT h_a (k := 2) (P := fun q => τ q = 34) rfl (fun _ h9 => h9) fl_X5_18 (fun _ h9 => h9) dX5_splitBothOpen_78 (fun q_17 eq_17 hq_17 => ?_)
  have w_18 : q_10 = q_17 := Option.some.inj (eq_10.symm.trans ((hF.r h_a (by decide) rfl _).symm.trans eq_17))
  subst w_18
  refine lv_iconst (v := 0) hx hb dX5_splitBothOpen_81 (by decide) ?_
  refine lv_lload hx hb dX5_splitBothOpen_82 (lv_at hl 2 rfl) ?_
  refine lv_lload hx hb dX5_splitBothOpen_84 (lv_at hl 0 rfl) ?_
  refine lv_lsub hx hb dX5_splitBothOpen_86 ?_
  refine lv_topl (fun z_19 ez_19 => ?_)
  refine t_last (n := 122) (i := 0) (x := z_19) rfl (by decide) hx hb hK hT hS hq_10 (hT.len hq_10 (by decide)) ⟨by decide, by decide⟩ dX5_splitBothOpen_87 (fun H locs G_20 eG_20 hT hS => ?_)
  have hF := hF.wL eG_20 hq_10 rfl
  exact ret_v hx hb hr hlocks ⟨⟨hS.1, hS.2.1⟩, G_20, hF, ⟨rfl, trivial⟩, hT⟩ hS.2.2 (Nat.le_of_ble_eq_true rfl) (Nat.le_of_ble_eq_true rfl) dX5_splitBothOpen_88
set_option maxHeartbeats 4000000 in
set_option maxRecDepth 100000 in
theorem t_X5_followTwo (l : Launch) (D : va_G) (cy : Nat → ClassId) (base : Nat) (τ : Nat → Nat) (G : Gh) (a : Nat) (h_a : τ a = 8) (b : Nat) (h_b : τ b = 7) (v : Int32) (w : Int32) : MM l yX5_followTwo cX5_followTwo 8 none 4 0 0 D cy [.ref a, .ref b, .int v, .int w] (PT D cy base τ G) (QT D cy base τ G [33, 34] (fun v g => v = none ∧ (True))) (RA base) := by
  refine MM.of (by decide) (Nat.le_of_ble_eq_true rfl) ?_
  intro p e s m below meth c C hPT ls hl
  obtain ⟨hx, hb, hr, hml, hown, hts, hlocks, hK, hnm⟩ := C
  obtain ⟨hZ, hT⟩ := hPT
  have hS : va_S (RA base) s.heap s.heap [] := va_S.rf
  have hF : Fr τ [33, 34] G G := Fr.rf
  have hl : lv_has ls 8 [(0, .ref a), (1, .ref b), (2, .int v), (3, .int w)] := hl
  refine lv_aload_n hx hb dX5_followTwo_0 rfl (lv_at hl 0 rfl) ?_
  refine t_getr cf_8 hx hb hts hown hK hT h_a (k := 1) (P := fun q => τ q = 33) rfl (fun _ h9 => h9) fl_X5_15 (fun _ h9 => h9) dX5_followTwo_1 (fun q_1 eq_1 hq_1 => ?_)
  refine lv_lconst (v := 0) hx hb dX5_followTwo_4 (by decide) ?_
  refine t_callv (runS (As := [.ref q_1, .long 0]) (rest := []) ⟨hx, hb, hml, hown, hts⟩ (t_J7_fill_d0a16_33 l D cy base τ G q_1 hq_1 0) sS_X5_33 hK ⟨Nat.le_trans hZ hS.1, hT⟩ ⟨Nat.le_of_ble_eq_true rfl, Nat.le_of_ble_eq_true rfl⟩ rfl hl.1 rfl (Nat.le_of_ble_eq_true rfl) dX5_followTwo_5 ⟨Nat.le_of_ble_eq_true rfl, Nat.le_of_ble_eq_true rfl⟩) hS (fun G_2 H locs hF_2 hr_2 hT hS => ?_)
  have hF := hF.tr hF_2 rfl
  refine lv_aload_n hx hb dX5_followTwo_8 rfl (lv_at hl 0 rfl) ?_
  refine t_getr cf_8 hx hb hts hown hK hT h_a (k := 2) (P := fun q => τ q = 34) rfl (fun _ h9 => h9) fl_X5_18 (fun _ h9 => h9) dX5_followTwo_9 (fun q_3 eq_3 hq_3 => ?_)
  have eq_3 := (hF.r h_a (by decide) rfl _).symm.trans eq_3
  refine lv_lconst (v := 0) hx hb dX5_followTwo_12 (by decide) ?_
  refine t_callv (runS (As := [.ref q_3, .long 0]) (rest := []) ⟨hx, hb, hml, hown, hts⟩ (t_J7_fill_d0a16_34 l D cy base τ G_2 q_3 hq_3 0) sS_X5_33 hK ⟨Nat.le_trans hZ hS.1, hT⟩ ⟨Nat.le_of_ble_eq_true rfl, Nat.le_of_ble_eq_true rfl⟩ rfl hl.1 rfl (Nat.le_of_ble_eq_true rfl) dX5_followTwo_13 ⟨Nat.le_of_ble_eq_true rfl, Nat.le_of_ble_eq_true rfl⟩) hS (fun G_4 H locs hF_4 hr_4 hT hS => ?_)
  have hF := hF.tr hF_4 rfl
  refine lv_aload_n hx hb dX5_followTwo_16 rfl (lv_at hl 0 rfl) ?_
  refine t_getr cf_8 hx hb hts hown hK hT h_a (k := 3) (P := fun q => τ q = 34) rfl (fun _ h9 => h9) fl_X5_21 (fun _ h9 => h9) dX5_followTwo_17 (fun q_5 eq_5 hq_5 => ?_)
  have eq_5 := (hF.r h_a (by decide) rfl _).symm.trans eq_5
  refine lv_lconst (v := 0) hx hb dX5_followTwo_20 (by decide) ?_
  refine t_callv (runS (As := [.ref q_5, .long 0]) (rest := []) ⟨hx, hb, hml, hown, hts⟩ (t_J7_fill_d0a16_34 l D cy base τ G_4 q_5 hq_5 0) sS_X5_33 hK ⟨Nat.le_trans hZ hS.1, hT⟩ ⟨Nat.le_of_ble_eq_true rfl, Nat.le_of_ble_eq_true rfl⟩ rfl hl.1 rfl (Nat.le_of_ble_eq_true rfl) dX5_followTwo_21 ⟨Nat.le_of_ble_eq_true rfl, Nat.le_of_ble_eq_true rfl⟩) hS (fun G_6 H locs hF_6 hr_6 hT hS => ?_)
  have hF := hF.tr hF_6 rfl
  refine lv_aload_n hx hb dX5_followTwo_24 rfl (lv_at hl 1 rfl) ?_
  refine lv_iload_n hx hb dX5_followTwo_25 rfl (lv_at hl 2 rfl) ?_
  refine lv_iload_n hx hb dX5_followTwo_26 rfl (lv_at hl 3 rfl) ?_
  refine pu_calli (runV (As := [.int v, .int w]) (rest := []) ⟨hx, hb, hml, hown, hts⟩ (t_X2_hasTwo l D cy base τ G_6 b h_b v w) sV_X5_63 hK (t_recv cf_7 hK hT h_b) ⟨Nat.le_trans hZ hS.1, hT⟩ ⟨Nat.le_of_ble_eq_true rfl, Nat.le_of_ble_eq_true rfl⟩ rfl hl.1 rfl (Nat.le_of_ble_eq_true rfl) dX5_followTwo_27 ⟨Nat.le_of_ble_eq_true rfl, Nat.le_of_ble_eq_true rfl⟩) (fun r_7 hr_7 => ?_)
  have hr_7_c := hr_7
  rcases hr_7_c with hr_7_0 | hr_7_1
  · skip
    obtain ⟨er_7, hr_7_0_f0, hr_7_0_f1, hr_7_0_f2, hr_7_0_f3⟩ := hr_7_0
    have hr_7_0_f0 : 0 ≤ v.toInt := hr_7_0_f0
    have hr_7_0_f1 : v.toInt ≤ 5 := hr_7_0_f1
    have hr_7_0_f2 : 0 ≤ w.toInt := hr_7_0_f2
    have hr_7_0_f3 : w.toInt ≤ 5 := hr_7_0_f3
    subst er_7
    refine W.eq (g2 := F0 m 30 ls [.int 1]) rfl ?_
    refine lv_if_ne (tgt := 34) hx hb dX5_followTwo_30 (by decide) (fun _ => ?_) (fun c_8 => absurd c_8 (by decide))
    refine lv_aload_n hx hb dX5_followTwo_34 rfl (lv_at hl 0 rfl) ?_
    refine t_getr cf_8 hx hb hts hown hK hT h_a (k := 3) (P := fun q => τ q = 34) rfl (fun _ h9 => h9) fl_X5_21 (fun _ h9 => h9) dX5_followTwo_35 (fun q_9 eq_9 hq_9 => ?_)
    have w_10 : q_5 = q_9 := Option.some.inj (eq_5.symm.trans ((hF.r h_a (by decide) rfl _).symm.trans eq_9))
    subst w_10
    refine lv_iconst (v := 0) hx hb dX5_followTwo_38 (by decide) ?_
    refine lv_ldc2 (v := 1000000000000) hx hb hown (hts _ kl_X5_45) dX5_followTwo_39 ?_
    refine t_last (n := 122) (i := 0) (x := 1000000000000) rfl (by decide) hx hb hK hT hS hq_5 (hT.len hq_5 (by decide)) ⟨by decide, by decide⟩ dX5_followTwo_42 (fun H locs G_11 eG_11 hT hS => ?_)
    have hF := hF.wL eG_11 hq_5 rfl
    refine lv_aload_n hx hb dX5_followTwo_43 rfl (lv_at hl 1 rfl) ?_
    refine t_getr cf_7 hx hb hts hown hK hT h_b (k := 17) (P := fun q => τ q = 27) rfl (fun _ h9 => h9) fl_X5_55 (fun _ h9 => h9) dX5_followTwo_44 (fun q_12 eq_12 hq_12 => ?_)
    have eq_12 := (hF.r h_b (by decide) rfl _).symm.trans eq_12
    refine lv_iload_n hx hb dX5_followTwo_47 rfl (lv_at hl 2 rfl) ?_
    refine t_iald (n := 6) (i := v) rfl (by decide) hx hb hK hT hq_12 (hT.len hq_12 (by decide)) ⟨by omega, by omega⟩ dX5_followTwo_48 (fun z_13 ez_13 rz_13 => ?_)
    have ez_13 : z_13 = G.1 q_12 v.toNatClampNeg := ez_13.trans (hF.i hq_12 (by decide) rfl _)
    refine lv_istore (lv' := [(4, .int z_13), (0, .ref a), (1, .ref b), (2, .int v), (3, .int w)]) hx hb dX5_followTwo_49 hl (by decide) rfl (fun ls hl => ?_)
    refine lv_aload_n hx hb dX5_followTwo_51 rfl (lv_at hl 2 rfl) ?_
    refine t_getr cf_7 hx hb hts hown hK hT h_b (k := 17) (P := fun q => τ q = 27) rfl (fun _ h9 => h9) fl_X5_55 (fun _ h9 => h9) dX5_followTwo_52 (fun q_14 eq_14 hq_14 => ?_)
    have w_15 : q_12 = q_14 := Option.some.inj (eq_12.symm.trans ((hF.r h_b (by decide) rfl _).symm.trans eq_14))
    subst w_15
    refine lv_iload_n hx hb dX5_followTwo_55 rfl (lv_at hl 4 rfl) ?_
    refine t_iald (n := 6) (i := w) rfl (by decide) hx hb hK hT hq_12 (hT.len hq_12 (by decide)) ⟨by omega, by omega⟩ dX5_followTwo_56 (fun z_16 ez_16 rz_16 => ?_)
    have ez_16 : z_16 = G.1 q_12 w.toNatClampNeg := ez_16.trans (hF.i hq_12 (by decide) rfl _)
    refine lv_istore (lv' := [(5, .int z_16), (4, .int z_13), (0, .ref a), (1, .ref b), (2, .int v), (3, .int w)]) hx hb dX5_followTwo_57 hl (by decide) rfl (fun ls hl => ?_)
    refine lv_iconst (v := 1) hx hb dX5_followTwo_59 (by decide) ?_
    refine lv_istore (lv' := [(6, .int 1), (5, .int z_16), (4, .int z_13), (0, .ref a), (1, .ref b), (2, .int v), (3, .int w)]) hx hb dX5_followTwo_60 hl (by decide) rfl (fun ls hl => ?_)
    refine W.loop (σ := Int32 × Gh) (fun w17 H locs ls => 1 ≤ w17.1.toInt ∧ w17.1.toInt ≤ 61 ∧ Fr τ [33, 34] G w17.2 ∧ TY D cy base τ w17.2 H ∧ va_S (RA base) s.heap H locs ∧ lv_has ls 8 [(6, .int w17.1), (5, .int z_16), (4, .int z_13), (0, .ref a), (1, .ref b), (2, .int v), (3, .int w)]) (fun w17 => (61 - w17.1.toInt).toNat) ?_ ((1 : Int32), G_11) _ _ _ ⟨(by show 1 ≤ (1 : Int32).toInt; decide), (by show (1 : Int32).toInt ≤ 61; decide), hF, hT, hS, lv_sub hl [0, 1, 2, 3, 4, 5, 6] rfl⟩
    intro w17 H locs ls hI ih17
    obtain ⟨x17_6, G_17⟩ := w17
    obtain ⟨i17_0, i17_1, hF, hT, hS, hl⟩ := hI
    have i17_0 : 1 ≤ x17_6.toInt := i17_0
    have i17_1 : x17_6.toInt ≤ 61 := i17_1
    have hF : Fr τ [33, 34] G G_17 := hF
    have hT : TY D cy base τ G_17 H := hT
    have hS : va_S (RA base) s.heap H locs := hS
    have hl : lv_has ls 8 [(6, .int x17_6), (5, .int z_16), (4, .int z_13), (0, .ref a), (1, .ref b), (2, .int v), (3, .int w)] := hl
    refine lv_iload hx hb dX5_followTwo_62 (lv_at hl 0 rfl) ?_
    refine lv_aload_n hx hb dX5_followTwo_64 rfl (lv_at hl 4 rfl) ?_
    refine t_geti cf_7 hx hb hts hown hK hT h_b (k := 1) rfl fl_X5_47 (fun _ h9 => h9) dX5_followTwo_65 (fun z_18 ez_18 rz_18 => ?_)
    have ez_18 : z_18 = G_17.1 b 1 := ez_18
    have rz_18 : 0 ≤ z_18.toInt ∧ z_18.toInt ≤ 60 := rz_18
    have ez_18 : z_18 = G.1 b 1 := ez_18.trans (hF.i h_b (by decide) rfl _)
    refine lv_icmp_gt (tgt := 162) hx hb dX5_followTwo_68 (by decide) (fun c_19 => ?_) (fun c_19 => ?_)
    · skip
      have tc_19 : z_18.toInt < x17_6.toInt := (fa_lt _ _).mp c_19
      refine lv_aload_n hx hb dX5_followTwo_162 rfl (lv_at hl 3 rfl) ?_
      refine t_getr cf_8 hx hb hts hown hK hT h_a (k := 1) (P := fun q => τ q = 33) rfl (fun _ h9 => h9) fl_X5_15 (fun _ h9 => h9) dX5_followTwo_163 (fun q_20 eq_20 hq_20 => ?_)
      have w_21 : q_1 = q_20 := Option.some.inj (eq_1.symm.trans ((hF.r h_a (by decide) rfl _).symm.trans eq_20))
      subst w_21
      refine lv_iconst (v := 0) hx hb dX5_followTwo_166 (by decide) ?_
      refine lv_aload_n hx hb dX5_followTwo_167 rfl (lv_at hl 3 rfl) ?_
      refine t_getr cf_8 hx hb hts hown hK hT h_a (k := 2) (P := fun q => τ q = 34) rfl (fun _ h9 => h9) fl_X5_18 (fun _ h9 => h9) dX5_followTwo_168 (fun q_22 eq_22 hq_22 => ?_)
      have w_23 : q_3 = q_22 := Option.some.inj (eq_3.symm.trans ((hF.r h_a (by decide) rfl _).symm.trans eq_22))
      subst w_23
      refine lv_iconst (v := 0) hx hb dX5_followTwo_171 (by decide) ?_
      refine t_lald (n := 122) (i := 0) rfl (by decide) hx hb hK hT hq_3 (hT.len hq_3 (by decide)) ⟨by decide, by decide⟩ dX5_followTwo_172 (fun z_24 ez_24 => ?_)
      refine lv_aload_n hx hb dX5_followTwo_173 rfl (lv_at hl 3 rfl) ?_
      refine t_getr cf_8 hx hb hts hown hK hT h_a (k := 3) (P := fun q => τ q = 34) rfl (fun _ h9 => h9) fl_X5_21 (fun _ h9 => h9) dX5_followTwo_174 (fun q_25 eq_25 hq_25 => ?_)
      have w_26 : q_5 = q_25 := Option.some.inj (eq_5.symm.trans ((hF.r h_a (by decide) rfl _).symm.trans eq_25))
      subst w_26
      refine lv_iconst (v := 0) hx hb dX5_followTwo_177 (by decide) ?_
      refine t_lald (n := 122) (i := 0) rfl (by decide) hx hb hK hT hq_5 (hT.len hq_5 (by decide)) ⟨by decide, by decide⟩ dX5_followTwo_178 (fun z_27 ez_27 => ?_)
      refine lv_ladd hx hb dX5_followTwo_179 ?_
      refine lv_topl (fun z_28 ez_28 => ?_)
      refine t_last (n := 3721) (i := 0) (x := z_28) rfl (by decide) hx hb hK hT hS hq_1 (hT.len hq_1 (by decide)) ⟨by decide, by decide⟩ dX5_followTwo_180 (fun H locs G_29 eG_29 hT hS => ?_)
      have hF := hF.wL eG_29 hq_1 rfl
      refine lv_iconst (v := 1) hx hb dX5_followTwo_181 (by decide) ?_
      refine lv_istore (lv' := [(6, .int 1), (5, .int z_16), (4, .int z_13), (0, .ref a), (1, .ref b), (2, .int v), (3, .int w)]) hx hb dX5_followTwo_182 hl (by decide) rfl (fun ls hl => ?_)
      refine W.loop (σ := Int32 × Gh) (fun w30 H locs ls => 1 ≤ w30.1.toInt ∧ w30.1.toInt ≤ 61 ∧ Fr τ [33, 34] G w30.2 ∧ TY D cy base τ w30.2 H ∧ va_S (RA base) s.heap H locs ∧ lv_has ls 8 [(6, .int w30.1), (5, .int z_16), (4, .int z_13), (0, .ref a), (1, .ref b), (2, .int v), (3, .int w)]) (fun w30 => (61 - w30.1.toInt).toNat) ?_ ((1 : Int32), G_29) _ _ _ ⟨(by show 1 ≤ (1 : Int32).toInt; decide), (by show (1 : Int32).toInt ≤ 61; decide), hF, hT, hS, lv_sub hl [0, 1, 2, 3, 4, 5, 6] rfl⟩
      intro w30 H locs ls hI ih30
      obtain ⟨x30_6, G_30⟩ := w30
      obtain ⟨i30_0, i30_1, hF, hT, hS, hl⟩ := hI
      have i30_0 : 1 ≤ x30_6.toInt := i30_0
      have i30_1 : x30_6.toInt ≤ 61 := i30_1
      have hF : Fr τ [33, 34] G G_30 := hF
      have hT : TY D cy base τ G_30 H := hT
      have hS : va_S (RA base) s.heap H locs := hS
      have hl : lv_has ls 8 [(6, .int x30_6), (5, .int z_16), (4, .int z_13), (0, .ref a), (1, .ref b), (2, .int v), (3, .int w)] := hl
      refine lv_iload hx hb dX5_followTwo_184 (lv_at hl 0 rfl) ?_
      refine lv_bipush (v := 61) hx hb dX5_followTwo_186 (by decide) ?_
      refine lv_icmp_ge (tgt := 250) hx hb dX5_followTwo_188 (by decide) (fun c_31 => ?_) (fun c_31 => ?_)
      · skip
        have tc_31 : 61 ≤ x30_6.toInt := (fa_le _ _).mp c_31
        exact ret_v hx hb hr hlocks ⟨⟨hS.1, hS.2.1⟩, G_30, hF, ⟨rfl, trivial⟩, hT⟩ hS.2.2 (Nat.le_of_ble_eq_true rfl) (Nat.le_of_ble_eq_true rfl) dX5_followTwo_250
      · skip
        have tc_31 : ¬ 61 ≤ x30_6.toInt := fun h => c_31 ((fa_le _ _).mpr h)
        refine lv_aload_n hx hb dX5_followTwo_191 rfl (lv_at hl 3 rfl) ?_
        refine t_getr cf_8 hx hb hts hown hK hT h_a (k := 1) (P := fun q => τ q = 33) rfl (fun _ h9 => h9) fl_X5_15 (fun _ h9 => h9) dX5_followTwo_192 (fun q_32 eq_32 hq_32 => ?_)
        have w_33 : q_1 = q_32 := Option.some.inj (eq_1.symm.trans ((hF.r h_a (by decide) rfl _).symm.trans eq_32))
        subst w_33
        refine lv_iload hx hb dX5_followTwo_195 (lv_at hl 0 rfl) ?_
        refine lv_bipush (v := 61) hx hb dX5_followTwo_197 (by decide) ?_
        refine lv_imul hx hb dX5_followTwo_199 ?_
        refine lv_topi (fun z_34 ez_34 => ?_)
        have tz_34 : z_34.toInt = x30_6.toInt * 61 := mul_t ez_34 (show -2147483648 ≤ x30_6.toInt * 61 by omega) (show x30_6.toInt * 61 < 2147483648 by omega)
        refine lv_aload_n hx hb dX5_followTwo_200 rfl (lv_at hl 3 rfl) ?_
        refine t_getr cf_8 hx hb hts hown hK hT h_a (k := 2) (P := fun q => τ q = 34) rfl (fun _ h9 => h9) fl_X5_18 (fun _ h9 => h9) dX5_followTwo_201 (fun q_35 eq_35 hq_35 => ?_)
        have w_36 : q_3 = q_35 := Option.some.inj (eq_3.symm.trans ((hF.r h_a (by decide) rfl _).symm.trans eq_35))
        subst w_36
        refine lv_iload hx hb dX5_followTwo_204 (lv_at hl 0 rfl) ?_
        refine t_lald (n := 122) (i := x30_6) rfl (by decide) hx hb hK hT hq_3 (hT.len hq_3 (by decide)) ⟨by omega, by omega⟩ dX5_followTwo_206 (fun z_37 ez_37 => ?_)
        refine lv_aload_n hx hb dX5_followTwo_207 rfl (lv_at hl 3 rfl) ?_
        refine t_getr cf_8 hx hb hts hown hK hT h_a (k := 3) (P := fun q => τ q = 34) rfl (fun _ h9 => h9) fl_X5_21 (fun _ h9 => h9) dX5_followTwo_208 (fun q_38 eq_38 hq_38 => ?_)
        have w_39 : q_5 = q_38 := Option.some.inj (eq_5.symm.trans ((hF.r h_a (by decide) rfl _).symm.trans eq_38))
        subst w_39
        refine lv_iload hx hb dX5_followTwo_211 (lv_at hl 0 rfl) ?_
        refine t_lald (n := 122) (i := x30_6) rfl (by decide) hx hb hK hT hq_5 (hT.len hq_5 (by decide)) ⟨by omega, by omega⟩ dX5_followTwo_213 (fun z_40 ez_40 => ?_)
        refine lv_ladd hx hb dX5_followTwo_214 ?_
        refine lv_topl (fun z_41 ez_41 => ?_)
        refine t_last (n := 3721) (i := z_34) (x := z_41) rfl (by decide) hx hb hK hT hS hq_1 (hT.len hq_1 (by decide)) ⟨by omega, by omega⟩ dX5_followTwo_215 (fun H locs G_42 eG_42 hT hS => ?_)
        have hF := hF.wL eG_42 hq_1 rfl
        refine lv_aload_n hx hb dX5_followTwo_216 rfl (lv_at hl 3 rfl) ?_
        refine t_getr cf_8 hx hb hts hown hK hT h_a (k := 1) (P := fun q => τ q = 33) rfl (fun _ h9 => h9) fl_X5_15 (fun _ h9 => h9) dX5_followTwo_217 (fun q_43 eq_43 hq_43 => ?_)
        have w_44 : q_1 = q_43 := Option.some.inj (eq_1.symm.trans ((hF.r h_a (by decide) rfl _).symm.trans eq_43))
        subst w_44
        refine lv_iload hx hb dX5_followTwo_220 (lv_at hl 0 rfl) ?_
        refine lv_aload_n hx hb dX5_followTwo_222 rfl (lv_at hl 3 rfl) ?_
        refine t_getr cf_8 hx hb hts hown hK hT h_a (k := 2) (P := fun q => τ q = 34) rfl (fun _ h9 => h9) fl_X5_18 (fun _ h9 => h9) dX5_followTwo_223 (fun q_45 eq_45 hq_45 => ?_)
        have w_46 : q_3 = q_45 := Option.some.inj (eq_3.symm.trans ((hF.r h_a (by decide) rfl _).symm.trans eq_45))
        subst w_46
        refine lv_bipush (v := 61) hx hb dX5_followTwo_226 (by decide) ?_
        refine lv_iload hx hb dX5_followTwo_228 (lv_at hl 0 rfl) ?_
        refine lv_iadd hx hb dX5_followTwo_230 ?_
        refine lv_topi (fun z_47 ez_47 => ?_)
        have tz_47 : z_47.toInt = 61 + x30_6.toInt := add_t ez_47 (show -2147483648 ≤ 61 + x30_6.toInt by omega) (show 61 + x30_6.toInt < 2147483648 by omega)
        refine t_lald (n := 122) (i := z_47) rfl (by decide) hx hb hK hT hq_3 (hT.len hq_3 (by decide)) ⟨by omega, by omega⟩ dX5_followTwo_231 (fun z_48 ez_48 => ?_)
        refine lv_aload_n hx hb dX5_followTwo_232 rfl (lv_at hl 3 rfl) ?_
        refine t_getr cf_8 hx hb hts hown hK hT h_a (k := 3) (P := fun q => τ q = 34) rfl (fun _ h9 => h9) fl_X5_21 (fun _ h9 => h9) dX5_followTwo_233 (fun q_49 eq_49 hq_49 => ?_)
        have w_50 : q_5 = q_49 := Option.some.inj (eq_5.symm.trans ((hF.r h_a (by decide) rfl _).symm.trans eq_49))
        subst w_50
        refine lv_bipush (v := 61) hx hb dX5_followTwo_236 (by decide) ?_
        refine lv_iload hx hb dX5_followTwo_238 (lv_at hl 0 rfl) ?_
        refine lv_iadd hx hb dX5_followTwo_240 ?_
        refine lv_topi (fun z_51 ez_51 => ?_)
        have w_52 : z_47 = z_51 := ez_47.trans ez_51.symm
        subst w_52
        refine t_lald (n := 122) (i := z_47) rfl (by decide) hx hb hK hT hq_5 (hT.len hq_5 (by decide)) ⟨by omega, by omega⟩ dX5_followTwo_241 (fun z_53 ez_53 => ?_)
        refine lv_ladd hx hb dX5_followTwo_242 ?_
        refine lv_topl (fun z_54 ez_54 => ?_)
        refine t_last (n := 3721) (i := x30_6) (x := z_54) rfl (by decide) hx hb hK hT hS hq_1 (hT.len hq_1 (by decide)) ⟨by omega, by omega⟩ dX5_followTwo_243 (fun H locs G_55 eG_55 hT hS => ?_)
        have hF := hF.wL eG_55 hq_1 rfl
        obtain ⟨z_56, ez_56⟩ : ∃ y : Int32, y = x30_6 + 1 := ⟨_, rfl⟩
        have tz_56 : z_56.toInt = x30_6.toInt + 1 := add_t ez_56 (show -2147483648 ≤ x30_6.toInt + 1 by omega) (show x30_6.toInt + 1 < 2147483648 by omega)
        refine lv_iinc (v := z_56) (lv' := [(6, .int z_56), (5, .int z_16), (4, .int z_13), (0, .ref a), (1, .ref b), (2, .int v), (3, .int w)]) hx hb dX5_followTwo_244 hl (k := 0) rfl (by rw [ez_56]; rfl) (by decide) rfl (fun ls hl => ?_)
        refine lv_goto (tgt := 184) hx hb dX5_followTwo_247 (by decide) ?_
        exact ih30 (z_56, G_55) _ _ _ (by show (61 - z_56.toInt).toNat < (61 - x30_6.toInt).toNat; omega) ⟨(by show 1 ≤ z_56.toInt; omega), (by show z_56.toInt ≤ 61; omega), hF, hT, hS, lv_sub hl [0, 1, 2, 3, 4, 5, 6] rfl⟩
    · skip
      have tc_19 : ¬ z_18.toInt < x17_6.toInt := fun h => c_19 ((fa_lt _ _).mpr h)
      refine lv_iload hx hb dX5_followTwo_71 (lv_at hl 0 rfl) ?_
      refine lv_bipush (v := 61) hx hb dX5_followTwo_73 (by decide) ?_
      refine lv_icmp_ge (tgt := 162) hx hb dX5_followTwo_75 (by decide) (fun c_57 => ?_) (fun c_57 => ?_)
      · skip
        have tc_57 : 61 ≤ x17_6.toInt := (fa_le _ _).mp c_57
        exfalso; omega
      · skip
        have tc_57 : ¬ 61 ≤ x17_6.toInt := fun h => c_57 ((fa_le _ _).mpr h)
        refine lv_iconst (v := 1) hx hb dX5_followTwo_78 (by decide) ?_
        refine lv_istore (lv' := [(7, .int 1), (6, .int x17_6), (5, .int z_16), (4, .int z_13), (0, .ref a), (1, .ref b), (2, .int v), (3, .int w)]) hx hb dX5_followTwo_79 hl (by decide) rfl (fun ls hl => ?_)
        refine W.loop (σ := Int32 × Gh) (fun w58 H locs ls => 1 ≤ w58.1.toInt ∧ w58.1.toInt ≤ 60 ∧ Fr τ [33, 34] G w58.2 ∧ TY D cy base τ w58.2 H ∧ va_S (RA base) s.heap H locs ∧ lv_has ls 8 [(7, .int w58.1), (6, .int x17_6), (5, .int z_16), (4, .int z_13), (0, .ref a), (1, .ref b), (2, .int v), (3, .int w)]) (fun w58 => (60 - w58.1.toInt).toNat) ?_ ((1 : Int32), G_17) _ _ _ ⟨(by show 1 ≤ (1 : Int32).toInt; decide), (by show (1 : Int32).toInt ≤ 60; decide), hF, hT, hS, lv_sub hl [0, 1, 2, 3, 4, 5, 6, 7] rfl⟩
        intro w58 H locs ls hI ih58
        obtain ⟨x58_7, G_58⟩ := w58
        obtain ⟨i58_0, i58_1, hF, hT, hS, hl⟩ := hI
        have i58_0 : 1 ≤ x58_7.toInt := i58_0
        have i58_1 : x58_7.toInt ≤ 60 := i58_1
        have hF : Fr τ [33, 34] G G_58 := hF
        have hT : TY D cy base τ G_58 H := hT
        have hS : va_S (RA base) s.heap H locs := hS
        have hl : lv_has ls 8 [(7, .int x58_7), (6, .int x17_6), (5, .int z_16), (4, .int z_13), (0, .ref a), (1, .ref b), (2, .int v), (3, .int w)] := hl
        refine lv_iload hx hb dX5_followTwo_81 (lv_at hl 0 rfl) ?_
        refine lv_iload hx hb dX5_followTwo_83 (lv_at hl 1 rfl) ?_
        refine lv_icmp_ge (tgt := 145) hx hb dX5_followTwo_85 (by decide) (fun c_59 => ?_) (fun c_59 => ?_)
        · skip
          have tc_59 : x17_6.toInt ≤ x58_7.toInt := (fa_le _ _).mp c_59
          refine lv_aload_n hx hb dX5_followTwo_145 rfl (lv_at hl 4 rfl) ?_
          refine lv_aload_n hx hb dX5_followTwo_146 rfl (lv_at hl 5 rfl) ?_
          refine lv_iload hx hb dX5_followTwo_147 (lv_at hl 1 rfl) ?_
          refine lv_iload hx hb dX5_followTwo_149 (lv_at hl 3 rfl) ?_
          refine lv_iload hx hb dX5_followTwo_151 (lv_at hl 2 rfl) ?_
          refine t_callv (runV (As := [.ref b, .int x17_6, .int z_13, .int z_16]) (rest := []) ⟨hx, hb, hml, hown, hts⟩ (t_X5_splitBothOpen l D cy base τ G_58 a h_a b h_b x17_6 ⟨by omega, by omega⟩ z_13 z_16) sV_X5_71 hK (t_recv cf_8 hK hT h_a) ⟨Nat.le_trans hZ hS.1, hT⟩ ⟨Nat.le_of_ble_eq_true rfl, Nat.le_of_ble_eq_true rfl⟩ rfl hl.1 rfl (Nat.le_of_ble_eq_true rfl) dX5_followTwo_153 ⟨Nat.le_of_ble_eq_true rfl, Nat.le_of_ble_eq_true rfl⟩) hS (fun G_60 H locs hF_60 hr_60 hT hS => ?_)
          have hF := hF.tr hF_60 rfl
          obtain ⟨z_61, ez_61⟩ : ∃ y : Int32, y = x17_6 + 1 := ⟨_, rfl⟩
          have tz_61 : z_61.toInt = x17_6.toInt + 1 := add_t ez_61 (show -2147483648 ≤ x17_6.toInt + 1 by omega) (show x17_6.toInt + 1 < 2147483648 by omega)
          refine lv_iinc (v := z_61) (lv' := [(6, .int z_61), (7, .int x58_7), (5, .int z_16), (4, .int z_13), (0, .ref a), (1, .ref b), (2, .int v), (3, .int w)]) hx hb dX5_followTwo_156 hl (k := 1) rfl (by rw [ez_61]; rfl) (by decide) rfl (fun ls hl => ?_)
          refine lv_goto (tgt := 62) hx hb dX5_followTwo_159 (by decide) ?_
          exact ih17 (z_61, G_60) _ _ _ (by show (61 - z_61.toInt).toNat < (61 - x17_6.toInt).toNat; omega) ⟨(by show 1 ≤ z_61.toInt; omega), (by show z_61.toInt ≤ 61; omega), hF, hT, hS, lv_sub hl [0, 2, 3, 4, 5, 6, 7] rfl⟩
        · skip
          have tc_59 : ¬ x17_6.toInt ≤ x58_7.toInt := fun h => c_59 ((fa_le _ _).mpr h)
          refine lv_aload_n hx hb dX5_followTwo_88 rfl (lv_at hl 4 rfl) ?_
          refine t_getr cf_8 hx hb hts hown hK hT h_a (k := 1) (P := fun q => τ q = 33) rfl (fun _ h9 => h9) fl_X5_15 (fun _ h9 => h9) dX5_followTwo_89 (fun q_62 eq_62 hq_62 => ?_)
          have w_63 : q_1 = q_62 := Option.some.inj (eq_1.symm.trans ((hF.r h_a (by decide) rfl _).symm.trans eq_62))
          subst w_63
          refine lv_iload hx hb dX5_followTwo_92 (lv_at hl 0 rfl) ?_
          refine lv_bipush (v := 61) hx hb dX5_followTwo_94 (by decide) ?_
          refine lv_imul hx hb dX5_followTwo_96 ?_
          refine lv_topi (fun z_64 ez_64 => ?_)
          have tz_64 : z_64.toInt = x58_7.toInt * 61 := mul_t ez_64 (show -2147483648 ≤ x58_7.toInt * 61 by omega) (show x58_7.toInt * 61 < 2147483648 by omega)
          refine lv_iload hx hb dX5_followTwo_97 (lv_at hl 1 rfl) ?_
          refine lv_iadd hx hb dX5_followTwo_99 ?_
          refine lv_topi (fun z_65 ez_65 => ?_)
          have tz_65 : z_65.toInt = z_64.toInt + x17_6.toInt := add_t ez_65 (show -2147483648 ≤ z_64.toInt + x17_6.toInt by omega) (show z_64.toInt + x17_6.toInt < 2147483648 by omega)
          refine lv_aload_n hx hb dX5_followTwo_100 rfl (lv_at hl 4 rfl) ?_
          refine lv_aload_n hx hb dX5_followTwo_101 rfl (lv_at hl 5 rfl) ?_
          refine lv_iload hx hb dX5_followTwo_102 (lv_at hl 1 rfl) ?_
          refine lv_iload hx hb dX5_followTwo_104 (lv_at hl 0 rfl) ?_
          refine lv_iload hx hb dX5_followTwo_106 (lv_at hl 2 rfl) ?_
          refine t_calll (runV (As := [.ref b, .int x17_6, .int x58_7, .int z_16]) (rest := [.int z_65, .ref q_1]) ⟨hx, hb, hml, hown, hts⟩ (t_X5_shutSecond l D cy base τ G_58 a h_a b h_b x17_6 x58_7 ⟨by omega, by omega⟩ z_16) sV_X5_67 hK (t_recv cf_8 hK hT h_a) ⟨Nat.le_trans hZ hS.1, hT⟩ ⟨Nat.le_of_ble_eq_true rfl, Nat.le_of_ble_eq_true rfl⟩ rfl hl.1 rfl (Nat.le_of_ble_eq_true rfl) dX5_followTwo_108 ⟨Nat.le_of_ble_eq_true rfl, Nat.le_of_ble_eq_true rfl⟩) hS (fun r_66 G_66 H locs hF_66 hr_66 hT hS => ?_)
          have hF := hF.tr hF_66 rfl
          refine t_last (n := 3721) (i := z_65) (x := r_66) rfl (by decide) hx hb hK hT hS hq_1 (hT.len hq_1 (by decide)) ⟨by omega, by omega⟩ dX5_followTwo_111 (fun H locs G_67 eG_67 hT hS => ?_)
          have hF := hF.wL eG_67 hq_1 rfl
          refine lv_aload_n hx hb dX5_followTwo_112 rfl (lv_at hl 4 rfl) ?_
          refine t_getr cf_8 hx hb hts hown hK hT h_a (k := 1) (P := fun q => τ q = 33) rfl (fun _ h9 => h9) fl_X5_15 (fun _ h9 => h9) dX5_followTwo_113 (fun q_68 eq_68 hq_68 => ?_)
          have w_69 : q_1 = q_68 := Option.some.inj (eq_1.symm.trans ((hF.r h_a (by decide) rfl _).symm.trans eq_68))
          subst w_69
          refine lv_iload hx hb dX5_followTwo_116 (lv_at hl 1 rfl) ?_
          refine lv_bipush (v := 61) hx hb dX5_followTwo_118 (by decide) ?_
          refine lv_imul hx hb dX5_followTwo_120 ?_
          refine lv_topi (fun z_70 ez_70 => ?_)
          have tz_70 : z_70.toInt = x17_6.toInt * 61 := mul_t ez_70 (show -2147483648 ≤ x17_6.toInt * 61 by omega) (show x17_6.toInt * 61 < 2147483648 by omega)
          refine lv_iload hx hb dX5_followTwo_121 (lv_at hl 0 rfl) ?_
          refine lv_iadd hx hb dX5_followTwo_123 ?_
          refine lv_topi (fun z_71 ez_71 => ?_)
          have tz_71 : z_71.toInt = z_70.toInt + x58_7.toInt := add_t ez_71 (show -2147483648 ≤ z_70.toInt + x58_7.toInt by omega) (show z_70.toInt + x58_7.toInt < 2147483648 by omega)
          refine lv_aload_n hx hb dX5_followTwo_124 rfl (lv_at hl 4 rfl) ?_
          refine lv_aload_n hx hb dX5_followTwo_125 rfl (lv_at hl 5 rfl) ?_
          refine lv_iload hx hb dX5_followTwo_126 (lv_at hl 1 rfl) ?_
          refine lv_bipush (v := 61) hx hb dX5_followTwo_128 (by decide) ?_
          refine lv_iload hx hb dX5_followTwo_130 (lv_at hl 0 rfl) ?_
          refine lv_iadd hx hb dX5_followTwo_132 ?_
          refine lv_topi (fun z_72 ez_72 => ?_)
          have tz_72 : z_72.toInt = 61 + x58_7.toInt := add_t ez_72 (show -2147483648 ≤ 61 + x58_7.toInt by omega) (show 61 + x58_7.toInt < 2147483648 by omega)
          refine lv_iload hx hb dX5_followTwo_133 (lv_at hl 3 rfl) ?_
          refine t_calll (runV (As := [.ref b, .int x17_6, .int z_72, .int z_13]) (rest := [.int z_71, .ref q_1]) ⟨hx, hb, hml, hown, hts⟩ (t_X5_shutSecond l D cy base τ G_67 a h_a b h_b x17_6 z_72 ⟨by omega, by omega⟩ z_13) sV_X5_67 hK (t_recv cf_8 hK hT h_a) ⟨Nat.le_trans hZ hS.1, hT⟩ ⟨Nat.le_of_ble_eq_true rfl, Nat.le_of_ble_eq_true rfl⟩ rfl hl.1 rfl (Nat.le_of_ble_eq_true rfl) dX5_followTwo_135 ⟨Nat.le_of_ble_eq_true rfl, Nat.le_of_ble_eq_true rfl⟩) hS (fun r_73 G_73 H locs hF_73 hr_73 hT hS => ?_)
          have hF := hF.tr hF_73 rfl
          refine t_last (n := 3721) (i := z_71) (x := r_73) rfl (by decide) hx hb hK hT hS hq_1 (hT.len hq_1 (by decide)) ⟨by omega, by omega⟩ dX5_followTwo_138 (fun H locs G_74 eG_74 hT hS => ?_)
          have hF := hF.wL eG_74 hq_1 rfl
          obtain ⟨z_75, ez_75⟩ : ∃ y : Int32, y = x58_7 + 1 := ⟨_, rfl⟩
          have tz_75 : z_75.toInt = x58_7.toInt + 1 := add_t ez_75 (show -2147483648 ≤ x58_7.toInt + 1 by omega) (show x58_7.toInt + 1 < 2147483648 by omega)
          refine lv_iinc (v := z_75) (lv' := [(7, .int z_75), (6, .int x17_6), (5, .int z_16), (4, .int z_13), (0, .ref a), (1, .ref b), (2, .int v), (3, .int w)]) hx hb dX5_followTwo_139 hl (k := 0) rfl (by rw [ez_75]; rfl) (by decide) rfl (fun ls hl => ?_)
          refine lv_goto (tgt := 81) hx hb dX5_followTwo_142 (by decide) ?_
          exact ih58 (z_75, G_74) _ _ _ (by show (60 - z_75.toInt).toNat < (60 - x58_7.toInt).toNat; omega) ⟨(by show 1 ≤ z_75.toInt; omega), (by show z_75.toInt ≤ 60; omega), hF, hT, hS, lv_sub hl [0, 1, 2, 3, 4, 5, 6, 7] rfl⟩
  · skip
    have er_7 := hr_7_1
    subst er_7
    refine W.eq (g2 := F0 m 30 ls [.int 0]) rfl ?_
    refine lv_if_ne (tgt := 34) hx hb dX5_followTwo_30 (by decide) (fun c_76 => absurd rfl c_76) (fun _ => ?_)
    exact ret_v hx hb hr hlocks ⟨⟨hS.1, hS.2.1⟩, G_6, hF, ⟨rfl, trivial⟩, hT⟩ hS.2.2 (Nat.le_of_ble_eq_true rfl) (Nat.le_of_ble_eq_true rfl) dX5_followTwo_33
