theorem dX10_isAsking_0 : decode cX10_isAsking 0 = .ok (.aload_n 0, 1) := by decide +kernel
theorem dX10_isAsking_1 : decode cX10_isAsking 1 = .ok (.getfield 13, 3) := by decide +kernel
theorem dX10_isAsking_4 : decode cX10_isAsking 4 = .ok (.iload_n 1, 1) := by decide +kernel
theorem dX10_isAsking_5 : decode cX10_isAsking 5 = .ok (.iaload, 1) := by decide +kernel
theorem dX10_isAsking_6 : decode cX10_isAsking 6 = .ok (.aload_n 0, 1) := by decide +kernel
theorem dX10_isAsking_7 : decode cX10_isAsking 7 = .ok (.getfield 43, 3) := by decide +kernel
theorem dX10_isAsking_10 : decode cX10_isAsking 10 = .ok (.iconst 0, 1) := by decide +kernel
theorem dX10_isAsking_11 : decode cX10_isAsking 11 = .ok (.iaload, 1) := by decide +kernel
theorem dX10_isAsking_12 : decode cX10_isAsking 12 = .ok (.if_icmp .eq 5, 3) := by decide +kernel
theorem dX10_isAsking_17 : decode cX10_isAsking 17 = .ok (.iconst 0, 1) := by decide +kernel
theorem dX10_isAsking_18 : decode cX10_isAsking 18 = .ok (.istore_n 2, 1) := by decide +kernel
theorem dX10_isAsking_19 : decode cX10_isAsking 19 = .ok (.iload_n 2, 1) := by decide +kernel
theorem dX10_isAsking_20 : decode cX10_isAsking 20 = .ok (.aload_n 0, 1) := by decide +kernel
theorem dX10_isAsking_21 : decode cX10_isAsking 21 = .ok (.getfield 43, 3) := by decide +kernel
theorem dX10_isAsking_24 : decode cX10_isAsking 24 = .ok (.iconst 0, 1) := by decide +kernel
theorem dX10_isAsking_25 : decode cX10_isAsking 25 = .ok (.iaload, 1) := by decide +kernel
theorem dX10_isAsking_26 : decode cX10_isAsking 26 = .ok (.if_icmp .ge 50, 3) := by decide +kernel
theorem dX10_isAsking_76 : decode cX10_isAsking 76 = .ok (.iconst 1, 1) := by decide +kernel
theorem dX10_isAsking_77 : decode cX10_isAsking 77 = .ok (.ireturn, 1) := by decide +kernel
theorem dX10_isAsking_29 : decode cX10_isAsking 29 = .ok (.aload_n 0, 1) := by decide +kernel
theorem dX10_isAsking_30 : decode cX10_isAsking 30 = .ok (.getfield 16, 3) := by decide +kernel
theorem dX10_isAsking_33 : decode cX10_isAsking 33 = .ok (.bipush 60, 2) := by decide +kernel
theorem dX10_isAsking_35 : decode cX10_isAsking 35 = .ok (.iload_n 1, 1) := by decide +kernel
theorem dX10_isAsking_36 : decode cX10_isAsking 36 = .ok (.imul, 1) := by decide +kernel
theorem dX10_isAsking_37 : decode cX10_isAsking 37 = .ok (.iload_n 2, 1) := by decide +kernel
theorem dX10_isAsking_38 : decode cX10_isAsking 38 = .ok (.iadd, 1) := by decide +kernel
theorem dX10_isAsking_39 : decode cX10_isAsking 39 = .ok (.laload, 1) := by decide +kernel
theorem dX10_isAsking_40 : decode cX10_isAsking 40 = .ok (.lconst 0, 1) := by decide +kernel
theorem dX10_isAsking_41 : decode cX10_isAsking 41 = .ok (.ldc2_w 370, 3) := by decide +kernel
theorem dX10_isAsking_44 : decode cX10_isAsking 44 = .ok (.invokestatic 116, 3) := by decide +kernel
theorem dX10_isAsking_47 : decode cX10_isAsking 47 = .ok (.ifCond .ne 5, 3) := by decide +kernel
theorem dX10_isAsking_52 : decode cX10_isAsking 52 = .ok (.aload_n 0, 1) := by decide +kernel
theorem dX10_isAsking_53 : decode cX10_isAsking 53 = .ok (.getfield 105, 3) := by decide +kernel
theorem dX10_isAsking_56 : decode cX10_isAsking 56 = .ok (.iload_n 2, 1) := by decide +kernel
theorem dX10_isAsking_57 : decode cX10_isAsking 57 = .ok (.aload_n 0, 1) := by decide +kernel
theorem dX10_isAsking_58 : decode cX10_isAsking 58 = .ok (.getfield 16, 3) := by decide +kernel
theorem dX10_isAsking_61 : decode cX10_isAsking 61 = .ok (.bipush 60, 2) := by decide +kernel
theorem dX10_isAsking_63 : decode cX10_isAsking 63 = .ok (.iload_n 1, 1) := by decide +kernel
theorem dX10_isAsking_64 : decode cX10_isAsking 64 = .ok (.imul, 1) := by decide +kernel
theorem dX10_isAsking_65 : decode cX10_isAsking 65 = .ok (.iload_n 2, 1) := by decide +kernel
theorem dX10_isAsking_66 : decode cX10_isAsking 66 = .ok (.iadd, 1) := by decide +kernel
theorem dX10_isAsking_67 : decode cX10_isAsking 67 = .ok (.laload, 1) := by decide +kernel
theorem dX10_isAsking_68 : decode cX10_isAsking 68 = .ok (.l2i, 1) := by decide +kernel
theorem dX10_isAsking_69 : decode cX10_isAsking 69 = .ok (.iastore, 1) := by decide +kernel
theorem dX10_isAsking_70 : decode cX10_isAsking 70 = .ok (.iinc 2 1, 3) := by decide +kernel
theorem dX10_isAsking_73 : decode cX10_isAsking 73 = .ok (.goto (-54), 3) := by decide +kernel
theorem dX10_isAsking_50 : decode cX10_isAsking 50 = .ok (.iconst 0, 1) := by decide +kernel
theorem dX10_isAsking_51 : decode cX10_isAsking 51 = .ok (.ireturn, 1) := by decide +kernel
theorem dX10_isAsking_15 : decode cX10_isAsking 15 = .ok (.iconst 0, 1) := by decide +kernel
theorem dX10_isAsking_16 : decode cX10_isAsking 16 = .ok (.ireturn, 1) := by decide +kernel
theorem dX10_askedBy_0 : decode cX10_askedBy 0 = .ok (.iconst 0, 1) := by decide +kernel
theorem dX10_askedBy_1 : decode cX10_askedBy 1 = .ok (.istore_n 2, 1) := by decide +kernel
theorem dX10_askedBy_2 : decode cX10_askedBy 2 = .ok (.iconst 0, 1) := by decide +kernel
theorem dX10_askedBy_3 : decode cX10_askedBy 3 = .ok (.istore_n 3, 1) := by decide +kernel
theorem dX10_askedBy_4 : decode cX10_askedBy 4 = .ok (.iload_n 3, 1) := by decide +kernel
theorem dX10_askedBy_5 : decode cX10_askedBy 5 = .ok (.aload_n 0, 1) := by decide +kernel
theorem dX10_askedBy_6 : decode cX10_askedBy 6 = .ok (.getfield 43, 3) := by decide +kernel
theorem dX10_askedBy_9 : decode cX10_askedBy 9 = .ok (.iconst 0, 1) := by decide +kernel
theorem dX10_askedBy_10 : decode cX10_askedBy 10 = .ok (.iaload, 1) := by decide +kernel
theorem dX10_askedBy_11 : decode cX10_askedBy 11 = .ok (.if_icmp .ge 32, 3) := by decide +kernel
theorem dX10_askedBy_43 : decode cX10_askedBy 43 = .ok (.iload_n 2, 1) := by decide +kernel
theorem dX10_askedBy_44 : decode cX10_askedBy 44 = .ok (.ireturn, 1) := by decide +kernel
theorem dX10_askedBy_14 : decode cX10_askedBy 14 = .ok (.iload_n 2, 1) := by decide +kernel
theorem dX10_askedBy_15 : decode cX10_askedBy 15 = .ok (.aload_n 0, 1) := by decide +kernel
theorem dX10_askedBy_16 : decode cX10_askedBy 16 = .ok (.getfield 105, 3) := by decide +kernel
theorem dX10_askedBy_19 : decode cX10_askedBy 19 = .ok (.iload_n 3, 1) := by decide +kernel
theorem dX10_askedBy_20 : decode cX10_askedBy 20 = .ok (.iaload, 1) := by decide +kernel
theorem dX10_askedBy_21 : decode cX10_askedBy 21 = .ok (.iload_n 1, 1) := by decide +kernel
theorem dX10_askedBy_22 : decode cX10_askedBy 22 = .ok (.if_icmp .ge 12, 3) := by decide +kernel
theorem dX10_askedBy_34 : decode cX10_askedBy 34 = .ok (.iload_n 1, 1) := by decide +kernel
theorem dX10_askedBy_35 : decode cX10_askedBy 35 = .ok (.iadd, 1) := by decide +kernel
theorem dX10_askedBy_36 : decode cX10_askedBy 36 = .ok (.istore_n 2, 1) := by decide +kernel
theorem dX10_askedBy_37 : decode cX10_askedBy 37 = .ok (.iinc 3 1, 3) := by decide +kernel
theorem dX10_askedBy_40 : decode cX10_askedBy 40 = .ok (.goto (-36), 3) := by decide +kernel
theorem dX10_askedBy_25 : decode cX10_askedBy 25 = .ok (.aload_n 0, 1) := by decide +kernel
theorem dX10_askedBy_26 : decode cX10_askedBy 26 = .ok (.getfield 105, 3) := by decide +kernel
theorem dX10_askedBy_29 : decode cX10_askedBy 29 = .ok (.iload_n 3, 1) := by decide +kernel
theorem dX10_askedBy_30 : decode cX10_askedBy 30 = .ok (.iaload, 1) := by decide +kernel
theorem dX10_askedBy_31 : decode cX10_askedBy 31 = .ok (.goto 4, 3) := by decide +kernel
theorem dX10_givenBy_0 : decode cX10_givenBy 0 = .ok (.iload_n 1, 1) := by decide +kernel
theorem dX10_givenBy_1 : decode cX10_givenBy 1 = .ok (.ifCond .ne 37, 3) := by decide +kernel
theorem dX10_givenBy_38 : decode cX10_givenBy 38 = .ok (.sipush 999, 3) := by decide +kernel
theorem dX10_givenBy_41 : decode cX10_givenBy 41 = .ok (.istore 4, 2) := by decide +kernel
theorem dX10_givenBy_43 : decode cX10_givenBy 43 = .ok (.aload_n 0, 1) := by decide +kernel
theorem dX10_givenBy_44 : decode cX10_givenBy 44 = .ok (.iload 4, 2) := by decide +kernel
theorem dX10_givenBy_46 : decode cX10_givenBy 46 = .ok (.invokevirtual 443, 3) := by decide +kernel
theorem dX10_givenBy_49 : decode cX10_givenBy 49 = .ok (.iload_n 2, 1) := by decide +kernel
theorem dX10_givenBy_50 : decode cX10_givenBy 50 = .ok (.if_icmp .le 9, 3) := by decide +kernel
theorem dX10_givenBy_59 : decode cX10_givenBy 59 = .ok (.aload_n 0, 1) := by decide +kernel
theorem dX10_givenBy_60 : decode cX10_givenBy 60 = .ok (.getfield 105, 3) := by decide +kernel
theorem dX10_givenBy_63 : decode cX10_givenBy 63 = .ok (.iload_n 3, 1) := by decide +kernel
theorem dX10_givenBy_64 : decode cX10_givenBy 64 = .ok (.iaload, 1) := by decide +kernel
theorem dX10_givenBy_65 : decode cX10_givenBy 65 = .ok (.iload 4, 2) := by decide +kernel
theorem dX10_givenBy_67 : decode cX10_givenBy 67 = .ok (.if_icmp .ge 12, 3) := by decide +kernel
theorem dX10_givenBy_79 : decode cX10_givenBy 79 = .ok (.iload 4, 2) := by decide +kernel
theorem dX10_givenBy_81 : decode cX10_givenBy 81 = .ok (.ireturn, 1) := by decide +kernel
theorem dX10_givenBy_70 : decode cX10_givenBy 70 = .ok (.aload_n 0, 1) := by decide +kernel
theorem dX10_givenBy_71 : decode cX10_givenBy 71 = .ok (.getfield 105, 3) := by decide +kernel
theorem dX10_givenBy_74 : decode cX10_givenBy 74 = .ok (.iload_n 3, 1) := by decide +kernel
theorem dX10_givenBy_75 : decode cX10_givenBy 75 = .ok (.iaload, 1) := by decide +kernel
theorem dX10_givenBy_76 : decode cX10_givenBy 76 = .ok (.goto 5, 3) := by decide +kernel
theorem dX10_givenBy_53 : decode cX10_givenBy 53 = .ok (.iinc 4 (-1), 3) := by decide +kernel
theorem dX10_givenBy_56 : decode cX10_givenBy 56 = .ok (.goto (-13), 3) := by decide +kernel
theorem dX10_givenBy_4 : decode cX10_givenBy 4 = .ok (.aload_n 0, 1) := by decide +kernel
theorem dX10_givenBy_5 : decode cX10_givenBy 5 = .ok (.sipush 1000, 3) := by decide +kernel
theorem dX10_givenBy_8 : decode cX10_givenBy 8 = .ok (.invokevirtual 443, 3) := by decide +kernel
theorem dX10_givenBy_11 : decode cX10_givenBy 11 = .ok (.istore 4, 2) := by decide +kernel
theorem dX10_givenBy_13 : decode cX10_givenBy 13 = .ok (.iload 4, 2) := by decide +kernel
theorem dX10_givenBy_15 : decode cX10_givenBy 15 = .ok (.ifCond .ne 7, 3) := by decide +kernel
theorem dX10_givenBy_22 : decode cX10_givenBy 22 = .ok (.iload_n 2, 1) := by decide +kernel
theorem dX10_givenBy_23 : decode cX10_givenBy 23 = .ok (.i2l, 1) := by decide +kernel
theorem dX10_givenBy_24 : decode cX10_givenBy 24 = .ok (.aload_n 0, 1) := by decide +kernel
theorem dX10_givenBy_25 : decode cX10_givenBy 25 = .ok (.getfield 105, 3) := by decide +kernel
theorem dX10_givenBy_28 : decode cX10_givenBy 28 = .ok (.iload_n 3, 1) := by decide +kernel
theorem dX10_givenBy_29 : decode cX10_givenBy 29 = .ok (.iaload, 1) := by decide +kernel
theorem dX10_givenBy_30 : decode cX10_givenBy 30 = .ok (.i2l, 1) := by decide +kernel
theorem dX10_givenBy_31 : decode cX10_givenBy 31 = .ok (.lmul, 1) := by decide +kernel
theorem dX10_givenBy_32 : decode cX10_givenBy 32 = .ok (.iload 4, 2) := by decide +kernel
theorem dX10_givenBy_34 : decode cX10_givenBy 34 = .ok (.i2l, 1) := by decide +kernel
theorem dX10_givenBy_35 : decode cX10_givenBy 35 = .ok (.ldiv, 1) := by decide +kernel
theorem dX10_givenBy_36 : decode cX10_givenBy 36 = .ok (.l2i, 1) := by decide +kernel
theorem dX10_givenBy_37 : decode cX10_givenBy 37 = .ok (.ireturn, 1) := by decide +kernel
theorem dX10_givenBy_18 : decode cX10_givenBy 18 = .ok (.iconst 0, 1) := by decide +kernel
theorem dX10_givenBy_19 : decode cX10_givenBy 19 = .ok (.goto 18, 3) := by decide +kernel
theorem dX10_whyNot_0 : decode cX10_whyNot 0 = .ok (.iload_n 1, 1) := by decide +kernel
theorem dX10_whyNot_1 : decode cX10_whyNot 1 = .ok (.invokestatic 120, 3) := by decide +kernel
theorem dX10_whyNot_4 : decode cX10_whyNot 4 = .ok (.ifCond .eq 34, 3) := by decide +kernel
theorem dX10_whyNot_7 : decode cX10_whyNot 7 = .ok (.iload_n 2, 1) := by decide +kernel
theorem dX10_whyNot_8 : decode cX10_whyNot 8 = .ok (.i2l, 1) := by decide +kernel
theorem dX10_whyNot_9 : decode cX10_whyNot 9 = .ok (.lconst 0, 1) := by decide +kernel
theorem dX10_whyNot_10 : decode cX10_whyNot 10 = .ok (.lconst 1, 1) := by decide +kernel
theorem dX10_whyNot_11 : decode cX10_whyNot 11 = .ok (.invokestatic 116, 3) := by decide +kernel
theorem dX10_whyNot_14 : decode cX10_whyNot 14 = .ok (.ifCond .eq 24, 3) := by decide +kernel
theorem dX10_whyNot_17 : decode cX10_whyNot 17 = .ok (.iload_n 3, 1) := by decide +kernel
theorem dX10_whyNot_18 : decode cX10_whyNot 18 = .ok (.i2l, 1) := by decide +kernel
theorem dX10_whyNot_19 : decode cX10_whyNot 19 = .ok (.lconst 0, 1) := by decide +kernel
theorem dX10_whyNot_20 : decode cX10_whyNot 20 = .ok (.ldc2_w 446, 3) := by decide +kernel
theorem dX10_whyNot_23 : decode cX10_whyNot 23 = .ok (.invokestatic 116, 3) := by decide +kernel
theorem dX10_whyNot_26 : decode cX10_whyNot 26 = .ok (.ifCond .eq 12, 3) := by decide +kernel
theorem dX10_whyNot_29 : decode cX10_whyNot 29 = .ok (.aload_n 0, 1) := by decide +kernel
theorem dX10_whyNot_30 : decode cX10_whyNot 30 = .ok (.iload 4, 2) := by decide +kernel
theorem dX10_whyNot_32 : decode cX10_whyNot 32 = .ok (.invokevirtual 297, 3) := by decide +kernel
theorem dX10_whyNot_35 : decode cX10_whyNot 35 = .ok (.ifCond .ne 6, 3) := by decide +kernel
theorem dX10_whyNot_41 : decode cX10_whyNot 41 = .ok (.aload_n 0, 1) := by decide +kernel
theorem dX10_whyNot_42 : decode cX10_whyNot 42 = .ok (.getfield 7, 3) := by decide +kernel
theorem dX10_whyNot_45 : decode cX10_whyNot 45 = .ok (.iload_n 1, 1) := by decide +kernel
theorem dX10_whyNot_46 : decode cX10_whyNot 46 = .ok (.iaload, 1) := by decide +kernel
theorem dX10_whyNot_47 : decode cX10_whyNot 47 = .ok (.iconst (-1), 1) := by decide +kernel
theorem dX10_whyNot_48 : decode cX10_whyNot 48 = .ok (.if_icmp .ne 6, 3) := by decide +kernel
theorem dX10_whyNot_54 : decode cX10_whyNot 54 = .ok (.aload_n 0, 1) := by decide +kernel
theorem dX10_whyNot_55 : decode cX10_whyNot 55 = .ok (.iload_n 1, 1) := by decide +kernel
theorem dX10_whyNot_56 : decode cX10_whyNot 56 = .ok (.invokevirtual 448, 3) := by decide +kernel
theorem dX10_whyNot_59 : decode cX10_whyNot 59 = .ok (.ifCond .eq 7, 3) := by decide +kernel
theorem dX10_whyNot_62 : decode cX10_whyNot 62 = .ok (.iconst 0, 1) := by decide +kernel
theorem dX10_whyNot_63 : decode cX10_whyNot 63 = .ok (.goto 5, 3) := by decide +kernel
theorem dX10_whyNot_68 : decode cX10_whyNot 68 = .ok (.ireturn, 1) := by decide +kernel
theorem dX10_whyNot_66 : decode cX10_whyNot 66 = .ok (.bipush (-2), 2) := by decide +kernel
theorem dX10_whyNot_51 : decode cX10_whyNot 51 = .ok (.bipush (-6), 2) := by decide +kernel
theorem dX10_whyNot_53 : decode cX10_whyNot 53 = .ok (.ireturn, 1) := by decide +kernel
theorem dX10_whyNot_38 : decode cX10_whyNot 38 = .ok (.bipush (-2), 2) := by decide +kernel
theorem dX10_whyNot_40 : decode cX10_whyNot 40 = .ok (.ireturn, 1) := by decide +kernel
theorem dX10_given_0 : decode cX10_given 0 = .ok (.aload_n 0, 1) := by decide +kernel
theorem dX10_given_1 : decode cX10_given 1 = .ok (.iconst 0, 1) := by decide +kernel
theorem dX10_given_2 : decode cX10_given 2 = .ok (.putfield 111, 3) := by decide +kernel
theorem dX10_given_5 : decode cX10_given 5 = .ok (.aload_n 0, 1) := by decide +kernel
theorem dX10_given_6 : decode cX10_given 6 = .ok (.iload_n 1, 1) := by decide +kernel
theorem dX10_given_7 : decode cX10_given 7 = .ok (.iload_n 2, 1) := by decide +kernel
theorem dX10_given_8 : decode cX10_given 8 = .ok (.iload_n 3, 1) := by decide +kernel
theorem dX10_given_9 : decode cX10_given 9 = .ok (.iload 4, 2) := by decide +kernel
theorem dX10_given_11 : decode cX10_given 11 = .ok (.invokevirtual 451, 3) := by decide +kernel
theorem dX10_given_14 : decode cX10_given 14 = .ok (.istore 5, 2) := by decide +kernel
theorem dX10_given_16 : decode cX10_given 16 = .ok (.iload 5, 2) := by decide +kernel
theorem dX10_given_18 : decode cX10_given 18 = .ok (.ifCond .eq 8, 3) := by decide +kernel
theorem dX10_given_26 : decode cX10_given 26 = .ok (.aload_n 0, 1) := by decide +kernel
theorem dX10_given_27 : decode cX10_given 27 = .ok (.iload_n 2, 1) := by decide +kernel
theorem dX10_given_28 : decode cX10_given 28 = .ok (.iload_n 3, 1) := by decide +kernel
theorem dX10_given_29 : decode cX10_given 29 = .ok (.iload 4, 2) := by decide +kernel
theorem dX10_given_31 : decode cX10_given 31 = .ok (.invokevirtual 455, 3) := by decide +kernel
theorem dX10_given_34 : decode cX10_given 34 = .ok (.ireturn, 1) := by decide +kernel
theorem dX10_given_21 : decode cX10_given 21 = .ok (.iload 5, 2) := by decide +kernel
theorem dX10_given_23 : decode cX10_given 23 = .ok (.goto 11, 3) := by decide +kernel
theorem dX10_lossOf_0 : decode cX10_lossOf 0 = .ok (.iload_n 3, 1) := by decide +kernel
theorem dX10_lossOf_1 : decode cX10_lossOf 1 = .ok (.sipush 999, 3) := by decide +kernel
theorem dX10_lossOf_4 : decode cX10_lossOf 4 = .ok (.if_icmp .le 9, 3) := by decide +kernel
theorem dX10_lossOf_13 : decode cX10_lossOf 13 = .ok (.iload_n 3, 1) := by decide +kernel
theorem dX10_lossOf_14 : decode cX10_lossOf 14 = .ok (.istore 4, 2) := by decide +kernel
theorem dX10_lossOf_16 : decode cX10_lossOf 16 = .ok (.lconst 0, 1) := by decide +kernel
theorem dX10_lossOf_17 : decode cX10_lossOf 17 = .ok (.lstore 5, 2) := by decide +kernel
theorem dX10_lossOf_19 : decode cX10_lossOf 19 = .ok (.iconst 0, 1) := by decide +kernel
theorem dX10_lossOf_20 : decode cX10_lossOf 20 = .ok (.istore 7, 2) := by decide +kernel
theorem dX10_lossOf_22 : decode cX10_lossOf 22 = .ok (.iload 7, 2) := by decide +kernel
theorem dX10_lossOf_24 : decode cX10_lossOf 24 = .ok (.aload_n 0, 1) := by decide +kernel
theorem dX10_lossOf_25 : decode cX10_lossOf 25 = .ok (.invokevirtual 278, 3) := by decide +kernel
theorem dX10_lossOf_28 : decode cX10_lossOf 28 = .ok (.if_icmp .gt 58, 3) := by decide +kernel
theorem dX10_lossOf_86 : decode cX10_lossOf 86 = .ok (.lload 5, 2) := by decide +kernel
theorem dX10_lossOf_88 : decode cX10_lossOf 88 = .ok (.lreturn, 1) := by decide +kernel
theorem dX10_lossOf_31 : decode cX10_lossOf 31 = .ok (.lload 5, 2) := by decide +kernel
theorem dX10_lossOf_33 : decode cX10_lossOf 33 = .ok (.aload_n 0, 1) := by decide +kernel
theorem dX10_lossOf_34 : decode cX10_lossOf 34 = .ok (.iload_n 1, 1) := by decide +kernel
theorem dX10_lossOf_35 : decode cX10_lossOf 35 = .ok (.iload_n 2, 1) := by decide +kernel
theorem dX10_lossOf_36 : decode cX10_lossOf 36 = .ok (.iload 7, 2) := by decide +kernel
theorem dX10_lossOf_38 : decode cX10_lossOf 38 = .ok (.invokevirtual 353, 3) := by decide +kernel
theorem dX10_lossOf_41 : decode cX10_lossOf 41 = .ok (.iload 4, 2) := by decide +kernel
theorem dX10_lossOf_43 : decode cX10_lossOf 43 = .ok (.if_icmp .le 33, 3) := by decide +kernel
theorem dX10_lossOf_76 : decode cX10_lossOf 76 = .ok (.lconst 0, 1) := by decide +kernel
theorem dX10_lossOf_77 : decode cX10_lossOf 77 = .ok (.ladd, 1) := by decide +kernel
theorem dX10_lossOf_78 : decode cX10_lossOf 78 = .ok (.lstore 5, 2) := by decide +kernel
theorem dX10_lossOf_80 : decode cX10_lossOf 80 = .ok (.iinc 7 1, 3) := by decide +kernel
theorem dX10_lossOf_83 : decode cX10_lossOf 83 = .ok (.goto (-61), 3) := by decide +kernel
theorem dX10_lossOf_46 : decode cX10_lossOf 46 = .ok (.aload_n 0, 1) := by decide +kernel
theorem dX10_lossOf_47 : decode cX10_lossOf 47 = .ok (.getfield 71, 3) := by decide +kernel
theorem dX10_lossOf_50 : decode cX10_lossOf 50 = .ok (.iload 7, 2) := by decide +kernel
theorem dX10_lossOf_52 : decode cX10_lossOf 52 = .ok (.laload, 1) := by decide +kernel
theorem dX10_lossOf_53 : decode cX10_lossOf 53 = .ok (.aload_n 0, 1) := by decide +kernel
theorem dX10_lossOf_54 : decode cX10_lossOf 54 = .ok (.iload_n 2, 1) := by decide +kernel
theorem dX10_lossOf_55 : decode cX10_lossOf 55 = .ok (.invokevirtual 357, 3) := by decide +kernel
theorem dX10_lossOf_58 : decode cX10_lossOf 58 = .ok (.i2l, 1) := by decide +kernel
theorem dX10_lossOf_59 : decode cX10_lossOf 59 = .ok (.lmul, 1) := by decide +kernel
theorem dX10_lossOf_60 : decode cX10_lossOf 60 = .ok (.aload_n 0, 1) := by decide +kernel
theorem dX10_lossOf_61 : decode cX10_lossOf 61 = .ok (.iload_n 1, 1) := by decide +kernel
theorem dX10_lossOf_62 : decode cX10_lossOf 62 = .ok (.iload_n 2, 1) := by decide +kernel
theorem dX10_lossOf_63 : decode cX10_lossOf 63 = .ok (.iload 7, 2) := by decide +kernel
theorem dX10_lossOf_65 : decode cX10_lossOf 65 = .ok (.invokevirtual 353, 3) := by decide +kernel
theorem dX10_lossOf_68 : decode cX10_lossOf 68 = .ok (.iload 4, 2) := by decide +kernel
theorem dX10_lossOf_70 : decode cX10_lossOf 70 = .ok (.isub, 1) := by decide +kernel
theorem dX10_lossOf_71 : decode cX10_lossOf 71 = .ok (.i2l, 1) := by decide +kernel
theorem dX10_lossOf_72 : decode cX10_lossOf 72 = .ok (.lmul, 1) := by decide +kernel
theorem dX10_lossOf_73 : decode cX10_lossOf 73 = .ok (.goto 4, 3) := by decide +kernel
theorem dX10_lossOf_7 : decode cX10_lossOf 7 = .ok (.sipush 999, 3) := by decide +kernel
theorem dX10_lossOf_10 : decode cX10_lossOf 10 = .ok (.goto 4, 3) := by decide +kernel
theorem dX10_bestAsk_0 : decode cX10_bestAsk 0 = .ok (.iconst 0, 1) := by decide +kernel
theorem dX10_bestAsk_1 : decode cX10_bestAsk 1 = .ok (.istore 5, 2) := by decide +kernel
theorem dX10_bestAsk_3 : decode cX10_bestAsk 3 = .ok (.lconst 0, 1) := by decide +kernel
theorem dX10_bestAsk_4 : decode cX10_bestAsk 4 = .ok (.lstore 6, 2) := by decide +kernel
theorem dX10_bestAsk_6 : decode cX10_bestAsk 6 = .ok (.iconst 0, 1) := by decide +kernel
theorem dX10_bestAsk_7 : decode cX10_bestAsk 7 = .ok (.istore 8, 2) := by decide +kernel
theorem dX10_bestAsk_9 : decode cX10_bestAsk 9 = .ok (.iload 8, 2) := by decide +kernel
theorem dX10_bestAsk_11 : decode cX10_bestAsk 11 = .ok (.sipush 999, 3) := by decide +kernel
theorem dX10_bestAsk_14 : decode cX10_bestAsk 14 = .ok (.if_icmp .gt 57, 3) := by decide +kernel
theorem dX10_bestAsk_71 : decode cX10_bestAsk 71 = .ok (.iload 5, 2) := by decide +kernel
theorem dX10_bestAsk_73 : decode cX10_bestAsk 73 = .ok (.ireturn, 1) := by decide +kernel
theorem dX10_bestAsk_17 : decode cX10_bestAsk 17 = .ok (.aload_n 0, 1) := by decide +kernel
theorem dX10_bestAsk_18 : decode cX10_bestAsk 18 = .ok (.getfield 105, 3) := by decide +kernel
theorem dX10_bestAsk_21 : decode cX10_bestAsk 21 = .ok (.iload_n 3, 1) := by decide +kernel
theorem dX10_bestAsk_22 : decode cX10_bestAsk 22 = .ok (.iload 8, 2) := by decide +kernel
theorem dX10_bestAsk_24 : decode cX10_bestAsk 24 = .ok (.iastore, 1) := by decide +kernel
theorem dX10_bestAsk_25 : decode cX10_bestAsk 25 = .ok (.aload_n 0, 1) := by decide +kernel
theorem dX10_bestAsk_26 : decode cX10_bestAsk 26 = .ok (.iload_n 3, 1) := by decide +kernel
theorem dX10_bestAsk_27 : decode cX10_bestAsk 27 = .ok (.iload 4, 2) := by decide +kernel
theorem dX10_bestAsk_29 : decode cX10_bestAsk 29 = .ok (.aload_n 0, 1) := by decide +kernel
theorem dX10_bestAsk_30 : decode cX10_bestAsk 30 = .ok (.iload_n 1, 1) := by decide +kernel
theorem dX10_bestAsk_31 : decode cX10_bestAsk 31 = .ok (.iload_n 2, 1) := by decide +kernel
theorem dX10_bestAsk_32 : decode cX10_bestAsk 32 = .ok (.iload_n 3, 1) := by decide +kernel
theorem dX10_bestAsk_33 : decode cX10_bestAsk 33 = .ok (.invokevirtual 455, 3) := by decide +kernel
theorem dX10_bestAsk_36 : decode cX10_bestAsk 36 = .ok (.invokevirtual 458, 3) := by decide +kernel
theorem dX10_bestAsk_39 : decode cX10_bestAsk 39 = .ok (.lstore 9, 2) := by decide +kernel
theorem dX10_bestAsk_41 : decode cX10_bestAsk 41 = .ok (.iload 8, 2) := by decide +kernel
theorem dX10_bestAsk_43 : decode cX10_bestAsk 43 = .ok (.ifCond .le 14, 3) := by decide +kernel
theorem dX10_bestAsk_57 : decode cX10_bestAsk 57 = .ok (.iload 8, 2) := by decide +kernel
theorem dX10_bestAsk_59 : decode cX10_bestAsk 59 = .ok (.istore 5, 2) := by decide +kernel
theorem dX10_bestAsk_61 : decode cX10_bestAsk 61 = .ok (.lload 9, 2) := by decide +kernel
theorem dX10_bestAsk_63 : decode cX10_bestAsk 63 = .ok (.lstore 6, 2) := by decide +kernel
theorem dX10_bestAsk_65 : decode cX10_bestAsk 65 = .ok (.iinc 8 1, 3) := by decide +kernel
theorem dX10_bestAsk_68 : decode cX10_bestAsk 68 = .ok (.goto (-59), 3) := by decide +kernel
theorem dX10_bestAsk_46 : decode cX10_bestAsk 46 = .ok (.lload 9, 2) := by decide +kernel
theorem dX10_bestAsk_48 : decode cX10_bestAsk 48 = .ok (.lload 6, 2) := by decide +kernel
theorem dX10_bestAsk_50 : decode cX10_bestAsk 50 = .ok (.lcmp, 1) := by decide +kernel
theorem dX10_bestAsk_51 : decode cX10_bestAsk 51 = .ok (.ifCond .lt 6, 3) := by decide +kernel
theorem dX10_bestAsk_54 : decode cX10_bestAsk 54 = .ok (.goto 11, 3) := by decide +kernel
theorem dX10_asks__0 : decode cX10_asks_ 0 = .ok (.aload_n 0, 1) := by decide +kernel
theorem dX10_asks__1 : decode cX10_asks_ 1 = .ok (.iconst 0, 1) := by decide +kernel
theorem dX10_asks__2 : decode cX10_asks_ 2 = .ok (.putfield 111, 3) := by decide +kernel
theorem dX10_asks__5 : decode cX10_asks_ 5 = .ok (.aload_n 0, 1) := by decide +kernel
theorem dX10_asks__6 : decode cX10_asks_ 6 = .ok (.iload 5, 2) := by decide +kernel
theorem dX10_asks__8 : decode cX10_asks_ 8 = .ok (.invokevirtual 350, 3) := by decide +kernel
theorem dX10_asks__11 : decode cX10_asks_ 11 = .ok (.ifCond .ne 6, 3) := by decide +kernel
theorem dX10_asks__17 : decode cX10_asks_ 17 = .ok (.aload_n 0, 1) := by decide +kernel
theorem dX10_asks__18 : decode cX10_asks_ 18 = .ok (.iload_n 1, 1) := by decide +kernel
theorem dX10_asks__19 : decode cX10_asks_ 19 = .ok (.iload_n 2, 1) := by decide +kernel
theorem dX10_asks__20 : decode cX10_asks_ 20 = .ok (.iload_n 3, 1) := by decide +kernel
theorem dX10_asks__21 : decode cX10_asks_ 21 = .ok (.iload 4, 2) := by decide +kernel
theorem dX10_asks__23 : decode cX10_asks_ 23 = .ok (.invokevirtual 451, 3) := by decide +kernel
theorem dX10_asks__26 : decode cX10_asks_ 26 = .ok (.istore 6, 2) := by decide +kernel
theorem dX10_asks__28 : decode cX10_asks_ 28 = .ok (.iload 6, 2) := by decide +kernel
theorem dX10_asks__30 : decode cX10_asks_ 30 = .ok (.ifCond .eq 6, 3) := by decide +kernel
theorem dX10_asks__36 : decode cX10_asks_ 36 = .ok (.aload_n 0, 1) := by decide +kernel
theorem dX10_asks__37 : decode cX10_asks_ 37 = .ok (.iload 4, 2) := by decide +kernel
theorem dX10_asks__39 : decode cX10_asks_ 39 = .ok (.invokevirtual 302, 3) := by decide +kernel
theorem dX10_asks__42 : decode cX10_asks_ 42 = .ok (.aload_n 0, 1) := by decide +kernel
theorem dX10_asks__43 : decode cX10_asks_ 43 = .ok (.iload_n 2, 1) := by decide +kernel
theorem dX10_asks__44 : decode cX10_asks_ 44 = .ok (.iload_n 3, 1) := by decide +kernel
theorem dX10_asks__45 : decode cX10_asks_ 45 = .ok (.iload 4, 2) := by decide +kernel
theorem dX10_asks__47 : decode cX10_asks_ 47 = .ok (.iload 5, 2) := by decide +kernel
theorem dX10_asks__49 : decode cX10_asks_ 49 = .ok (.invokevirtual 461, 3) := by decide +kernel
theorem dX10_asks__52 : decode cX10_asks_ 52 = .ok (.ireturn, 1) := by decide +kernel
theorem dX10_asks__33 : decode cX10_asks_ 33 = .ok (.iload 6, 2) := by decide +kernel
theorem dX10_asks__35 : decode cX10_asks_ 35 = .ok (.ireturn, 1) := by decide +kernel
theorem dX10_asks__14 : decode cX10_asks_ 14 = .ok (.bipush (-2), 2) := by decide +kernel
theorem dX10_asks__16 : decode cX10_asks_ 16 = .ok (.ireturn, 1) := by decide +kernel
theorem dX10_pays_0 : decode cX10_pays 0 = .ok (.aload_n 0, 1) := by decide +kernel
theorem dX10_pays_1 : decode cX10_pays 1 = .ok (.iconst 0, 1) := by decide +kernel
theorem dX10_pays_2 : decode cX10_pays 2 = .ok (.putfield 111, 3) := by decide +kernel
theorem dX10_pays_5 : decode cX10_pays 5 = .ok (.aload_n 0, 1) := by decide +kernel
theorem dX10_pays_6 : decode cX10_pays 6 = .ok (.iload 5, 2) := by decide +kernel
theorem dX10_pays_8 : decode cX10_pays 8 = .ok (.invokevirtual 350, 3) := by decide +kernel
theorem dX10_pays_11 : decode cX10_pays 11 = .ok (.ifCond .ne 7, 3) := by decide +kernel
theorem dX10_pays_18 : decode cX10_pays 18 = .ok (.aload_n 0, 1) := by decide +kernel
theorem dX10_pays_19 : decode cX10_pays 19 = .ok (.iload_n 1, 1) := by decide +kernel
theorem dX10_pays_20 : decode cX10_pays 20 = .ok (.iload_n 2, 1) := by decide +kernel
theorem dX10_pays_21 : decode cX10_pays 21 = .ok (.iload_n 3, 1) := by decide +kernel
theorem dX10_pays_22 : decode cX10_pays 22 = .ok (.iload 4, 2) := by decide +kernel
theorem dX10_pays_24 : decode cX10_pays 24 = .ok (.invokevirtual 451, 3) := by decide +kernel
theorem dX10_pays_27 : decode cX10_pays 27 = .ok (.istore 6, 2) := by decide +kernel
theorem dX10_pays_29 : decode cX10_pays 29 = .ok (.iload 6, 2) := by decide +kernel
theorem dX10_pays_31 : decode cX10_pays 31 = .ok (.ifCond .eq 7, 3) := by decide +kernel
theorem dX10_pays_38 : decode cX10_pays 38 = .ok (.aload_n 0, 1) := by decide +kernel
theorem dX10_pays_39 : decode cX10_pays 39 = .ok (.iload 4, 2) := by decide +kernel
theorem dX10_pays_41 : decode cX10_pays 41 = .ok (.invokevirtual 302, 3) := by decide +kernel
theorem dX10_pays_44 : decode cX10_pays 44 = .ok (.aload_n 0, 1) := by decide +kernel
theorem dX10_pays_45 : decode cX10_pays 45 = .ok (.iload 4, 2) := by decide +kernel
theorem dX10_pays_47 : decode cX10_pays 47 = .ok (.iload 5, 2) := by decide +kernel
theorem dX10_pays_49 : decode cX10_pays 49 = .ok (.aload_n 0, 1) := by decide +kernel
theorem dX10_pays_50 : decode cX10_pays 50 = .ok (.iload_n 2, 1) := by decide +kernel
theorem dX10_pays_51 : decode cX10_pays 51 = .ok (.iload_n 3, 1) := by decide +kernel
theorem dX10_pays_52 : decode cX10_pays 52 = .ok (.iload 4, 2) := by decide +kernel
theorem dX10_pays_54 : decode cX10_pays 54 = .ok (.invokevirtual 455, 3) := by decide +kernel
theorem dX10_pays_57 : decode cX10_pays 57 = .ok (.invokevirtual 458, 3) := by decide +kernel
theorem dX10_pays_60 : decode cX10_pays 60 = .ok (.lstore 7, 2) := by decide +kernel
theorem dX10_pays_62 : decode cX10_pays 62 = .ok (.aload_n 0, 1) := by decide +kernel
theorem dX10_pays_63 : decode cX10_pays 63 = .ok (.getfield 105, 3) := by decide +kernel
theorem dX10_pays_66 : decode cX10_pays 66 = .ok (.iload 4, 2) := by decide +kernel
theorem dX10_pays_68 : decode cX10_pays 68 = .ok (.aload_n 0, 1) := by decide +kernel
theorem dX10_pays_69 : decode cX10_pays 69 = .ok (.iload_n 2, 1) := by decide +kernel
theorem dX10_pays_70 : decode cX10_pays 70 = .ok (.iload_n 3, 1) := by decide +kernel
theorem dX10_pays_71 : decode cX10_pays 71 = .ok (.iload 4, 2) := by decide +kernel
theorem dX10_pays_73 : decode cX10_pays 73 = .ok (.iload 5, 2) := by decide +kernel
theorem dX10_pays_75 : decode cX10_pays 75 = .ok (.invokevirtual 461, 3) := by decide +kernel
theorem dX10_pays_78 : decode cX10_pays 78 = .ok (.iastore, 1) := by decide +kernel
theorem dX10_pays_79 : decode cX10_pays 79 = .ok (.lload 7, 2) := by decide +kernel
theorem dX10_pays_81 : decode cX10_pays 81 = .ok (.aload_n 0, 1) := by decide +kernel
theorem dX10_pays_82 : decode cX10_pays 82 = .ok (.iload 4, 2) := by decide +kernel
theorem dX10_pays_84 : decode cX10_pays 84 = .ok (.iload 5, 2) := by decide +kernel
theorem dX10_pays_86 : decode cX10_pays 86 = .ok (.aload_n 0, 1) := by decide +kernel
theorem dX10_pays_87 : decode cX10_pays 87 = .ok (.iload_n 2, 1) := by decide +kernel
theorem dX10_pays_88 : decode cX10_pays 88 = .ok (.iload_n 3, 1) := by decide +kernel
theorem dX10_pays_89 : decode cX10_pays 89 = .ok (.iload 4, 2) := by decide +kernel
theorem dX10_pays_91 : decode cX10_pays 91 = .ok (.invokevirtual 455, 3) := by decide +kernel
theorem dX10_pays_94 : decode cX10_pays 94 = .ok (.invokevirtual 458, 3) := by decide +kernel
theorem dX10_pays_97 : decode cX10_pays 97 = .ok (.lsub, 1) := by decide +kernel
theorem dX10_pays_98 : decode cX10_pays 98 = .ok (.ldc2_w 345, 3) := by decide +kernel
theorem dX10_pays_101 : decode cX10_pays 101 = .ok (.ldiv, 1) := by decide +kernel
theorem dX10_pays_102 : decode cX10_pays 102 = .ok (.lreturn, 1) := by decide +kernel
theorem dX10_pays_34 : decode cX10_pays 34 = .ok (.iload 6, 2) := by decide +kernel
theorem dX10_pays_36 : decode cX10_pays 36 = .ok (.i2l, 1) := by decide +kernel
theorem dX10_pays_37 : decode cX10_pays 37 = .ok (.lreturn, 1) := by decide +kernel
theorem dX10_pays_14 : decode cX10_pays 14 = .ok (.ldc2_w 300, 3) := by decide +kernel
theorem dX10_pays_17 : decode cX10_pays 17 = .ok (.lreturn, 1) := by decide +kernel
theorem dX10_standing_0 : decode cX10_standing 0 = .ok (.aload_n 0, 1) := by decide +kernel
theorem dX10_standing_1 : decode cX10_standing 1 = .ok (.iload_n 1, 1) := by decide +kernel
theorem dX10_standing_2 : decode cX10_standing 2 = .ok (.iload_n 2, 1) := by decide +kernel
theorem dX10_standing_3 : decode cX10_standing 3 = .ok (.iload 4, 2) := by decide +kernel
theorem dX10_standing_5 : decode cX10_standing 5 = .ok (.invokevirtual 378, 3) := by decide +kernel
theorem dX10_standing_8 : decode cX10_standing 8 = .ok (.ldc2_w 345, 3) := by decide +kernel
theorem dX10_standing_11 : decode cX10_standing 11 = .ok (.ldiv, 1) := by decide +kernel
theorem dX10_standing_12 : decode cX10_standing 12 = .ok (.ldc2_w 343, 3) := by decide +kernel
theorem dX10_standing_15 : decode cX10_standing 15 = .ok (.aload_n 0, 1) := by decide +kernel
theorem dX10_standing_16 : decode cX10_standing 16 = .ok (.iload_n 2, 1) := by decide +kernel
theorem dX10_standing_17 : decode cX10_standing 17 = .ok (.invokevirtual 363, 3) := by decide +kernel
theorem dX10_standing_20 : decode cX10_standing 20 = .ok (.i2l, 1) := by decide +kernel
theorem dX10_standing_21 : decode cX10_standing 21 = .ok (.lmul, 1) := by decide +kernel
theorem dX10_standing_22 : decode cX10_standing 22 = .ok (.iload_n 3, 1) := by decide +kernel
theorem dX10_standing_23 : decode cX10_standing 23 = .ok (.iload 4, 2) := by decide +kernel
theorem dX10_standing_25 : decode cX10_standing 25 = .ok (.isub, 1) := by decide +kernel
theorem dX10_standing_26 : decode cX10_standing 26 = .ok (.i2l, 1) := by decide +kernel
theorem dX10_standing_27 : decode cX10_standing 27 = .ok (.lmul, 1) := by decide +kernel
theorem dX10_standing_28 : decode cX10_standing 28 = .ok (.ladd, 1) := by decide +kernel
theorem dX10_standing_29 : decode cX10_standing 29 = .ok (.lreturn, 1) := by decide +kernel
theorem dX10_burnt_0 : decode cX10_burnt 0 = .ok (.aload_n 0, 1) := by decide +kernel
theorem dX10_burnt_1 : decode cX10_burnt 1 = .ok (.iconst 0, 1) := by decide +kernel
theorem dX10_burnt_2 : decode cX10_burnt 2 = .ok (.putfield 111, 3) := by decide +kernel
theorem dX10_burnt_5 : decode cX10_burnt 5 = .ok (.aload_n 0, 1) := by decide +kernel
theorem dX10_burnt_6 : decode cX10_burnt 6 = .ok (.iload_n 1, 1) := by decide +kernel
theorem dX10_burnt_7 : decode cX10_burnt 7 = .ok (.iload_n 2, 1) := by decide +kernel
theorem dX10_burnt_8 : decode cX10_burnt 8 = .ok (.iload_n 3, 1) := by decide +kernel
theorem dX10_burnt_9 : decode cX10_burnt 9 = .ok (.invokevirtual 375, 3) := by decide +kernel
theorem dX10_burnt_12 : decode cX10_burnt 12 = .ok (.ifCond .eq 11, 3) := by decide +kernel
theorem dX10_burnt_15 : decode cX10_burnt 15 = .ok (.iload 4, 2) := by decide +kernel
theorem dX10_burnt_17 : decode cX10_burnt 17 = .ok (.invokestatic 464, 3) := by decide +kernel
theorem dX10_burnt_20 : decode cX10_burnt 20 = .ok (.ifCond .ne 7, 3) := by decide +kernel
theorem dX10_burnt_27 : decode cX10_burnt 27 = .ok (.aload_n 0, 1) := by decide +kernel
theorem dX10_burnt_28 : decode cX10_burnt 28 = .ok (.iload_n 1, 1) := by decide +kernel
theorem dX10_burnt_29 : decode cX10_burnt 29 = .ok (.invokevirtual 302, 3) := by decide +kernel
theorem dX10_burnt_32 : decode cX10_burnt 32 = .ok (.bipush 100, 2) := by decide +kernel
theorem dX10_burnt_34 : decode cX10_burnt 34 = .ok (.iload 4, 2) := by decide +kernel
theorem dX10_burnt_36 : decode cX10_burnt 36 = .ok (.isub, 1) := by decide +kernel
theorem dX10_burnt_37 : decode cX10_burnt 37 = .ok (.i2l, 1) := by decide +kernel
theorem dX10_burnt_38 : decode cX10_burnt 38 = .ok (.aload_n 0, 1) := by decide +kernel
theorem dX10_burnt_39 : decode cX10_burnt 39 = .ok (.iload_n 1, 1) := by decide +kernel
theorem dX10_burnt_40 : decode cX10_burnt 40 = .ok (.iload_n 2, 1) := by decide +kernel
theorem dX10_burnt_41 : decode cX10_burnt 41 = .ok (.iload_n 3, 1) := by decide +kernel
theorem dX10_burnt_42 : decode cX10_burnt 42 = .ok (.iload_n 3, 1) := by decide +kernel
theorem dX10_burnt_43 : decode cX10_burnt 43 = .ok (.invokevirtual 467, 3) := by decide +kernel
theorem dX10_burnt_46 : decode cX10_burnt 46 = .ok (.lmul, 1) := by decide +kernel
theorem dX10_burnt_47 : decode cX10_burnt 47 = .ok (.iload 4, 2) := by decide +kernel
theorem dX10_burnt_49 : decode cX10_burnt 49 = .ok (.i2l, 1) := by decide +kernel
theorem dX10_burnt_50 : decode cX10_burnt 50 = .ok (.aload_n 0, 1) := by decide +kernel
theorem dX10_burnt_51 : decode cX10_burnt 51 = .ok (.iload_n 1, 1) := by decide +kernel
theorem dX10_burnt_52 : decode cX10_burnt 52 = .ok (.iload_n 2, 1) := by decide +kernel
theorem dX10_burnt_53 : decode cX10_burnt 53 = .ok (.iload_n 3, 1) := by decide +kernel
theorem dX10_burnt_54 : decode cX10_burnt 54 = .ok (.iconst 0, 1) := by decide +kernel
theorem dX10_burnt_55 : decode cX10_burnt 55 = .ok (.invokevirtual 467, 3) := by decide +kernel
theorem dX10_burnt_58 : decode cX10_burnt 58 = .ok (.lmul, 1) := by decide +kernel
theorem dX10_burnt_59 : decode cX10_burnt 59 = .ok (.ladd, 1) := by decide +kernel
theorem dX10_burnt_60 : decode cX10_burnt 60 = .ok (.ldc2_w 282, 3) := by decide +kernel
theorem dX10_burnt_63 : decode cX10_burnt 63 = .ok (.ldiv, 1) := by decide +kernel
theorem dX10_burnt_64 : decode cX10_burnt 64 = .ok (.lreturn, 1) := by decide +kernel
theorem dX10_burnt_23 : decode cX10_burnt 23 = .ok (.ldc2_w 300, 3) := by decide +kernel
theorem dX10_burnt_26 : decode cX10_burnt 26 = .ok (.lreturn, 1) := by decide +kernel
theorem dX10_spreadOf_0 : decode cX10_spreadOf 0 = .ok (.iload_n 3, 1) := by decide +kernel
theorem dX10_spreadOf_1 : decode cX10_spreadOf 1 = .ok (.iconst 2, 1) := by decide +kernel
theorem dX10_spreadOf_2 : decode cX10_spreadOf 2 = .ok (.idiv, 1) := by decide +kernel
theorem dX10_spreadOf_3 : decode cX10_spreadOf 3 = .ok (.istore 5, 2) := by decide +kernel
theorem dX10_spreadOf_5 : decode cX10_spreadOf 5 = .ok (.ldc2_w 282, 3) := by decide +kernel
theorem dX10_spreadOf_8 : decode cX10_spreadOf 8 = .ok (.iload 4, 2) := by decide +kernel
theorem dX10_spreadOf_10 : decode cX10_spreadOf 10 = .ok (.i2l, 1) := by decide +kernel
theorem dX10_spreadOf_11 : decode cX10_spreadOf 11 = .ok (.lsub, 1) := by decide +kernel
theorem dX10_spreadOf_12 : decode cX10_spreadOf 12 = .ok (.ldc2_w 282, 3) := by decide +kernel
theorem dX10_spreadOf_15 : decode cX10_spreadOf 15 = .ok (.iload 4, 2) := by decide +kernel
theorem dX10_spreadOf_17 : decode cX10_spreadOf 17 = .ok (.i2l, 1) := by decide +kernel
theorem dX10_spreadOf_18 : decode cX10_spreadOf 18 = .ok (.lsub, 1) := by decide +kernel
theorem dX10_spreadOf_19 : decode cX10_spreadOf 19 = .ok (.lmul, 1) := by decide +kernel
theorem dX10_spreadOf_20 : decode cX10_spreadOf 20 = .ok (.aload_n 0, 1) := by decide +kernel
theorem dX10_spreadOf_21 : decode cX10_spreadOf 21 = .ok (.iload_n 1, 1) := by decide +kernel
theorem dX10_spreadOf_22 : decode cX10_spreadOf 22 = .ok (.iload_n 2, 1) := by decide +kernel
theorem dX10_spreadOf_23 : decode cX10_spreadOf 23 = .ok (.iload_n 3, 1) := by decide +kernel
theorem dX10_spreadOf_24 : decode cX10_spreadOf 24 = .ok (.iload_n 3, 1) := by decide +kernel
theorem dX10_spreadOf_25 : decode cX10_spreadOf 25 = .ok (.invokevirtual 467, 3) := by decide +kernel
theorem dX10_spreadOf_28 : decode cX10_spreadOf 28 = .ok (.lmul, 1) := by decide +kernel
theorem dX10_spreadOf_29 : decode cX10_spreadOf 29 = .ok (.lstore 6, 2) := by decide +kernel
theorem dX10_spreadOf_31 : decode cX10_spreadOf 31 = .ok (.ldc2_w 282, 3) := by decide +kernel
theorem dX10_spreadOf_34 : decode cX10_spreadOf 34 = .ok (.iload 4, 2) := by decide +kernel
theorem dX10_spreadOf_36 : decode cX10_spreadOf 36 = .ok (.i2l, 1) := by decide +kernel
theorem dX10_spreadOf_37 : decode cX10_spreadOf 37 = .ok (.lsub, 1) := by decide +kernel
theorem dX10_spreadOf_38 : decode cX10_spreadOf 38 = .ok (.iload 4, 2) := by decide +kernel
theorem dX10_spreadOf_40 : decode cX10_spreadOf 40 = .ok (.i2l, 1) := by decide +kernel
theorem dX10_spreadOf_41 : decode cX10_spreadOf 41 = .ok (.lmul, 1) := by decide +kernel
theorem dX10_spreadOf_42 : decode cX10_spreadOf 42 = .ok (.aload_n 0, 1) := by decide +kernel
theorem dX10_spreadOf_43 : decode cX10_spreadOf 43 = .ok (.iload_n 1, 1) := by decide +kernel
theorem dX10_spreadOf_44 : decode cX10_spreadOf 44 = .ok (.iload_n 2, 1) := by decide +kernel
theorem dX10_spreadOf_45 : decode cX10_spreadOf 45 = .ok (.iload_n 3, 1) := by decide +kernel
theorem dX10_spreadOf_46 : decode cX10_spreadOf 46 = .ok (.iload 5, 2) := by decide +kernel
theorem dX10_spreadOf_48 : decode cX10_spreadOf 48 = .ok (.invokevirtual 467, 3) := by decide +kernel
theorem dX10_spreadOf_51 : decode cX10_spreadOf 51 = .ok (.aload_n 0, 1) := by decide +kernel
theorem dX10_spreadOf_52 : decode cX10_spreadOf 52 = .ok (.iload_n 1, 1) := by decide +kernel
theorem dX10_spreadOf_53 : decode cX10_spreadOf 53 = .ok (.iload_n 2, 1) := by decide +kernel
theorem dX10_spreadOf_54 : decode cX10_spreadOf 54 = .ok (.iload_n 3, 1) := by decide +kernel
theorem dX10_spreadOf_55 : decode cX10_spreadOf 55 = .ok (.iload_n 3, 1) := by decide +kernel
theorem dX10_spreadOf_56 : decode cX10_spreadOf 56 = .ok (.iload 5, 2) := by decide +kernel
theorem dX10_spreadOf_58 : decode cX10_spreadOf 58 = .ok (.isub, 1) := by decide +kernel
theorem dX10_spreadOf_59 : decode cX10_spreadOf 59 = .ok (.invokevirtual 467, 3) := by decide +kernel
theorem dX10_spreadOf_62 : decode cX10_spreadOf 62 = .ok (.ladd, 1) := by decide +kernel
theorem dX10_spreadOf_63 : decode cX10_spreadOf 63 = .ok (.lmul, 1) := by decide +kernel
theorem dX10_spreadOf_64 : decode cX10_spreadOf 64 = .ok (.lstore 8, 2) := by decide +kernel
theorem dX10_spreadOf_66 : decode cX10_spreadOf 66 = .ok (.lload 6, 2) := by decide +kernel
theorem dX10_spreadOf_68 : decode cX10_spreadOf 68 = .ok (.lload 8, 2) := by decide +kernel
theorem dX10_spreadOf_70 : decode cX10_spreadOf 70 = .ok (.ladd, 1) := by decide +kernel
theorem dX10_spreadOf_71 : decode cX10_spreadOf 71 = .ok (.iload 4, 2) := by decide +kernel
theorem dX10_spreadOf_73 : decode cX10_spreadOf 73 = .ok (.i2l, 1) := by decide +kernel
theorem dX10_spreadOf_74 : decode cX10_spreadOf 74 = .ok (.iload 4, 2) := by decide +kernel
theorem dX10_spreadOf_76 : decode cX10_spreadOf 76 = .ok (.i2l, 1) := by decide +kernel
theorem dX10_spreadOf_77 : decode cX10_spreadOf 77 = .ok (.lmul, 1) := by decide +kernel
theorem dX10_spreadOf_78 : decode cX10_spreadOf 78 = .ok (.aload_n 0, 1) := by decide +kernel
theorem dX10_spreadOf_79 : decode cX10_spreadOf 79 = .ok (.iload_n 1, 1) := by decide +kernel
theorem dX10_spreadOf_80 : decode cX10_spreadOf 80 = .ok (.iload_n 2, 1) := by decide +kernel
theorem dX10_spreadOf_81 : decode cX10_spreadOf 81 = .ok (.iload_n 3, 1) := by decide +kernel
theorem dX10_spreadOf_82 : decode cX10_spreadOf 82 = .ok (.iconst 0, 1) := by decide +kernel
theorem dX10_spreadOf_83 : decode cX10_spreadOf 83 = .ok (.invokevirtual 467, 3) := by decide +kernel
theorem dX10_spreadOf_86 : decode cX10_spreadOf 86 = .ok (.lmul, 1) := by decide +kernel
theorem dX10_spreadOf_87 : decode cX10_spreadOf 87 = .ok (.ladd, 1) := by decide +kernel
theorem dX10_spreadOf_88 : decode cX10_spreadOf 88 = .ok (.ldc2_w 471, 3) := by decide +kernel
theorem dX10_spreadOf_91 : decode cX10_spreadOf 91 = .ok (.ldiv, 1) := by decide +kernel
theorem dX10_spreadOf_92 : decode cX10_spreadOf 92 = .ok (.lreturn, 1) := by decide +kernel
theorem dX10_spread_0 : decode cX10_spread 0 = .ok (.aload_n 0, 1) := by decide +kernel
theorem dX10_spread_1 : decode cX10_spread 1 = .ok (.iconst 0, 1) := by decide +kernel
theorem dX10_spread_2 : decode cX10_spread 2 = .ok (.putfield 111, 3) := by decide +kernel
theorem dX10_spread_5 : decode cX10_spread 5 = .ok (.aload_n 0, 1) := by decide +kernel
theorem dX10_spread_6 : decode cX10_spread 6 = .ok (.iload_n 1, 1) := by decide +kernel
theorem dX10_spread_7 : decode cX10_spread 7 = .ok (.iload_n 2, 1) := by decide +kernel
theorem dX10_spread_8 : decode cX10_spread 8 = .ok (.iload_n 3, 1) := by decide +kernel
theorem dX10_spread_9 : decode cX10_spread 9 = .ok (.invokevirtual 375, 3) := by decide +kernel
theorem dX10_spread_12 : decode cX10_spread 12 = .ok (.ifCond .eq 11, 3) := by decide +kernel
theorem dX10_spread_15 : decode cX10_spread 15 = .ok (.iload 4, 2) := by decide +kernel
theorem dX10_spread_17 : decode cX10_spread 17 = .ok (.invokestatic 464, 3) := by decide +kernel
theorem dX10_spread_20 : decode cX10_spread 20 = .ok (.ifCond .ne 7, 3) := by decide +kernel
theorem dX10_spread_27 : decode cX10_spread 27 = .ok (.aload_n 0, 1) := by decide +kernel
theorem dX10_spread_28 : decode cX10_spread 28 = .ok (.iload_n 1, 1) := by decide +kernel
theorem dX10_spread_29 : decode cX10_spread 29 = .ok (.invokevirtual 302, 3) := by decide +kernel
theorem dX10_spread_32 : decode cX10_spread 32 = .ok (.aload_n 0, 1) := by decide +kernel
theorem dX10_spread_33 : decode cX10_spread 33 = .ok (.iload_n 1, 1) := by decide +kernel
theorem dX10_spread_34 : decode cX10_spread 34 = .ok (.iload_n 2, 1) := by decide +kernel
theorem dX10_spread_35 : decode cX10_spread 35 = .ok (.iload_n 3, 1) := by decide +kernel
theorem dX10_spread_36 : decode cX10_spread 36 = .ok (.iload 4, 2) := by decide +kernel
theorem dX10_spread_38 : decode cX10_spread 38 = .ok (.invokevirtual 473, 3) := by decide +kernel
theorem dX10_spread_41 : decode cX10_spread 41 = .ok (.lreturn, 1) := by decide +kernel
theorem dX10_spread_23 : decode cX10_spread 23 = .ok (.ldc2_w 300, 3) := by decide +kernel
theorem dX10_spread_26 : decode cX10_spread 26 = .ok (.lreturn, 1) := by decide +kernel
theorem dX10_bear_0 : decode cX10_bear 0 = .ok (.aload_n 0, 1) := by decide +kernel
theorem dX10_bear_1 : decode cX10_bear 1 = .ok (.iconst 0, 1) := by decide +kernel
theorem dX10_bear_2 : decode cX10_bear 2 = .ok (.putfield 111, 3) := by decide +kernel
theorem dX10_bear_5 : decode cX10_bear 5 = .ok (.aload_n 0, 1) := by decide +kernel
theorem dX10_bear_6 : decode cX10_bear 6 = .ok (.iload_n 1, 1) := by decide +kernel
theorem dX10_bear_7 : decode cX10_bear 7 = .ok (.iload_n 2, 1) := by decide +kernel
theorem dX10_bear_8 : decode cX10_bear 8 = .ok (.iconst 0, 1) := by decide +kernel
theorem dX10_bear_9 : decode cX10_bear 9 = .ok (.invokevirtual 375, 3) := by decide +kernel
theorem dX10_bear_12 : decode cX10_bear 12 = .ok (.ifCond .eq 10, 3) := by decide +kernel
theorem dX10_bear_15 : decode cX10_bear 15 = .ok (.iload_n 3, 1) := by decide +kernel
theorem dX10_bear_16 : decode cX10_bear 16 = .ok (.invokestatic 464, 3) := by decide +kernel
theorem dX10_bear_19 : decode cX10_bear 19 = .ok (.ifCond .ne 6, 3) := by decide +kernel
theorem dX10_bear_25 : decode cX10_bear 25 = .ok (.aload_n 0, 1) := by decide +kernel
theorem dX10_bear_26 : decode cX10_bear 26 = .ok (.iload_n 1, 1) := by decide +kernel
theorem dX10_bear_27 : decode cX10_bear 27 = .ok (.invokevirtual 302, 3) := by decide +kernel
theorem dX10_bear_30 : decode cX10_bear 30 = .ok (.iconst 0, 1) := by decide +kernel
theorem dX10_bear_31 : decode cX10_bear 31 = .ok (.istore 4, 2) := by decide +kernel
theorem dX10_bear_33 : decode cX10_bear 33 = .ok (.aload_n 0, 1) := by decide +kernel
theorem dX10_bear_34 : decode cX10_bear 34 = .ok (.iload_n 1, 1) := by decide +kernel
theorem dX10_bear_35 : decode cX10_bear 35 = .ok (.iload_n 2, 1) := by decide +kernel
theorem dX10_bear_36 : decode cX10_bear 36 = .ok (.iconst 0, 1) := by decide +kernel
theorem dX10_bear_37 : decode cX10_bear 37 = .ok (.iload_n 3, 1) := by decide +kernel
theorem dX10_bear_38 : decode cX10_bear 38 = .ok (.invokevirtual 473, 3) := by decide +kernel
theorem dX10_bear_41 : decode cX10_bear 41 = .ok (.lstore 5, 2) := by decide +kernel
theorem dX10_bear_43 : decode cX10_bear 43 = .ok (.iconst 1, 1) := by decide +kernel
theorem dX10_bear_44 : decode cX10_bear 44 = .ok (.istore 7, 2) := by decide +kernel
theorem dX10_bear_46 : decode cX10_bear 46 = .ok (.iload 7, 2) := by decide +kernel
theorem dX10_bear_48 : decode cX10_bear 48 = .ok (.sipush 999, 3) := by decide +kernel
theorem dX10_bear_51 : decode cX10_bear 51 = .ok (.if_icmp .gt 39, 3) := by decide +kernel
theorem dX10_bear_90 : decode cX10_bear 90 = .ok (.iload 4, 2) := by decide +kernel
theorem dX10_bear_92 : decode cX10_bear 92 = .ok (.ireturn, 1) := by decide +kernel
theorem dX10_bear_54 : decode cX10_bear 54 = .ok (.aload_n 0, 1) := by decide +kernel
theorem dX10_bear_55 : decode cX10_bear 55 = .ok (.iload_n 1, 1) := by decide +kernel
theorem dX10_bear_56 : decode cX10_bear 56 = .ok (.iload_n 2, 1) := by decide +kernel
theorem dX10_bear_57 : decode cX10_bear 57 = .ok (.iload 7, 2) := by decide +kernel
theorem dX10_bear_59 : decode cX10_bear 59 = .ok (.iload_n 3, 1) := by decide +kernel
theorem dX10_bear_60 : decode cX10_bear 60 = .ok (.invokevirtual 473, 3) := by decide +kernel
theorem dX10_bear_63 : decode cX10_bear 63 = .ok (.lstore 8, 2) := by decide +kernel
theorem dX10_bear_65 : decode cX10_bear 65 = .ok (.lload 8, 2) := by decide +kernel
theorem dX10_bear_67 : decode cX10_bear 67 = .ok (.lload 5, 2) := by decide +kernel
theorem dX10_bear_69 : decode cX10_bear 69 = .ok (.lcmp, 1) := by decide +kernel
theorem dX10_bear_70 : decode cX10_bear 70 = .ok (.ifCond .lt 6, 3) := by decide +kernel
theorem dX10_bear_76 : decode cX10_bear 76 = .ok (.iload 7, 2) := by decide +kernel
theorem dX10_bear_78 : decode cX10_bear 78 = .ok (.istore 4, 2) := by decide +kernel
theorem dX10_bear_80 : decode cX10_bear 80 = .ok (.lload 8, 2) := by decide +kernel
theorem dX10_bear_82 : decode cX10_bear 82 = .ok (.lstore 5, 2) := by decide +kernel
theorem dX10_bear_84 : decode cX10_bear 84 = .ok (.iinc 7 1, 3) := by decide +kernel
theorem dX10_bear_87 : decode cX10_bear 87 = .ok (.goto (-41), 3) := by decide +kernel
theorem dX10_bear_73 : decode cX10_bear 73 = .ok (.goto 11, 3) := by decide +kernel
theorem dX10_bear_22 : decode cX10_bear 22 = .ok (.bipush (-2), 2) := by decide +kernel
theorem dX10_bear_24 : decode cX10_bear 24 = .ok (.ireturn, 1) := by decide +kernel
theorem dX10_drawn_0 : decode cX10_drawn 0 = .ok (.aload_n 0, 1) := by decide +kernel
theorem dX10_drawn_1 : decode cX10_drawn 1 = .ok (.ldc2_w 476, 3) := by decide +kernel
theorem dX10_drawn_4 : decode cX10_drawn 4 = .ok (.aload_n 0, 1) := by decide +kernel
theorem dX10_drawn_5 : decode cX10_drawn 5 = .ok (.getfield 478, 3) := by decide +kernel
theorem dX10_drawn_8 : decode cX10_drawn 8 = .ok (.lmul, 1) := by decide +kernel
theorem dX10_drawn_9 : decode cX10_drawn 9 = .ok (.ldc2_w 481, 3) := by decide +kernel
theorem dX10_drawn_12 : decode cX10_drawn 12 = .ok (.ladd, 1) := by decide +kernel
theorem dX10_drawn_13 : decode cX10_drawn 13 = .ok (.ldc2_w 483, 3) := by decide +kernel
theorem dX10_drawn_16 : decode cX10_drawn 16 = .ok (.lrem, 1) := by decide +kernel
theorem dX10_drawn_17 : decode cX10_drawn 17 = .ok (.putfield 478, 3) := by decide +kernel
theorem dX10_drawn_20 : decode cX10_drawn 20 = .ok (.aload_n 0, 1) := by decide +kernel
theorem dX10_drawn_21 : decode cX10_drawn 21 = .ok (.getfield 478, 3) := by decide +kernel
theorem dX10_drawn_24 : decode cX10_drawn 24 = .ok (.ldc2_w 485, 3) := by decide +kernel
theorem dX10_drawn_27 : decode cX10_drawn 27 = .ok (.ldiv, 1) := by decide +kernel
theorem dX10_drawn_28 : decode cX10_drawn 28 = .ok (.ldc2_w 282, 3) := by decide +kernel
theorem dX10_drawn_31 : decode cX10_drawn 31 = .ok (.lrem, 1) := by decide +kernel
theorem dX10_drawn_32 : decode cX10_drawn 32 = .ok (.l2i, 1) := by decide +kernel
theorem dX10_drawn_33 : decode cX10_drawn 33 = .ok (.ireturn, 1) := by decide +kernel
theorem dX10_draws_0 : decode cX10_draws 0 = .ok (.iconst 0, 1) := by decide +kernel
theorem dX10_draws_1 : decode cX10_draws 1 = .ok (.istore_n 3, 1) := by decide +kernel
theorem dX10_draws_2 : decode cX10_draws 2 = .ok (.iload_n 3, 1) := by decide +kernel
theorem dX10_draws_3 : decode cX10_draws 3 = .ok (.bipush 6, 2) := by decide +kernel
theorem dX10_draws_5 : decode cX10_draws 5 = .ok (.if_icmp .ge 16, 3) := by decide +kernel
theorem dX10_draws_21 : decode cX10_draws 21 = .ok (.aload_n 0, 1) := by decide +kernel
theorem dX10_draws_22 : decode cX10_draws 22 = .ok (.lload_n 1, 1) := by decide +kernel
theorem dX10_draws_23 : decode cX10_draws 23 = .ok (.putfield 478, 3) := by decide +kernel
theorem dX10_draws_26 : decode cX10_draws 26 = .ok (.iconst 0, 1) := by decide +kernel
theorem dX10_draws_27 : decode cX10_draws 27 = .ok (.istore_n 3, 1) := by decide +kernel
theorem dX10_draws_28 : decode cX10_draws 28 = .ok (.iconst 0, 1) := by decide +kernel
theorem dX10_draws_29 : decode cX10_draws 29 = .ok (.istore 4, 2) := by decide +kernel
theorem dX10_draws_31 : decode cX10_draws 31 = .ok (.iconst 1, 1) := by decide +kernel
theorem dX10_draws_32 : decode cX10_draws 32 = .ok (.istore 5, 2) := by decide +kernel
theorem dX10_draws_34 : decode cX10_draws 34 = .ok (.iload 5, 2) := by decide +kernel
theorem dX10_draws_36 : decode cX10_draws 36 = .ok (.aload_n 0, 1) := by decide +kernel
theorem dX10_draws_37 : decode cX10_draws 37 = .ok (.invokevirtual 278, 3) := by decide +kernel
theorem dX10_draws_40 : decode cX10_draws 40 = .ok (.if_icmp .gt 91, 3) := by decide +kernel
theorem dX10_draws_131 : decode cX10_draws 131 = .ok (.iload 4, 2) := by decide +kernel
theorem dX10_draws_133 : decode cX10_draws 133 = .ok (.ireturn, 1) := by decide +kernel
theorem dX10_draws_43 : decode cX10_draws 43 = .ok (.aload_n 0, 1) := by decide +kernel
theorem dX10_draws_44 : decode cX10_draws 44 = .ok (.invokevirtual 487, 3) := by decide +kernel
theorem dX10_draws_47 : decode cX10_draws 47 = .ok (.aload_n 0, 1) := by decide +kernel
theorem dX10_draws_48 : decode cX10_draws 48 = .ok (.iload 5, 2) := by decide +kernel
theorem dX10_draws_50 : decode cX10_draws 50 = .ok (.iload_n 3, 1) := by decide +kernel
theorem dX10_draws_51 : decode cX10_draws 51 = .ok (.invokevirtual 286, 3) := by decide +kernel
theorem dX10_draws_54 : decode cX10_draws 54 = .ok (.if_icmp .ge 7, 3) := by decide +kernel
theorem dX10_draws_61 : decode cX10_draws 61 = .ok (.iconst 0, 1) := by decide +kernel
theorem dX10_draws_62 : decode cX10_draws 62 = .ok (.istore_n 3, 1) := by decide +kernel
theorem dX10_draws_63 : decode cX10_draws 63 = .ok (.iconst 0, 1) := by decide +kernel
theorem dX10_draws_64 : decode cX10_draws 64 = .ok (.istore 6, 2) := by decide +kernel
theorem dX10_draws_66 : decode cX10_draws 66 = .ok (.iload 6, 2) := by decide +kernel
theorem dX10_draws_68 : decode cX10_draws 68 = .ok (.aload_n 0, 1) := by decide +kernel
theorem dX10_draws_69 : decode cX10_draws 69 = .ok (.getfield 43, 3) := by decide +kernel
theorem dX10_draws_72 : decode cX10_draws 72 = .ok (.iconst 0, 1) := by decide +kernel
theorem dX10_draws_73 : decode cX10_draws 73 = .ok (.iaload, 1) := by decide +kernel
theorem dX10_draws_74 : decode cX10_draws 74 = .ok (.if_icmp .ge 51, 3) := by decide +kernel
theorem dX10_draws_125 : decode cX10_draws 125 = .ok (.iinc 5 1, 3) := by decide +kernel
theorem dX10_draws_128 : decode cX10_draws 128 = .ok (.goto (-94), 3) := by decide +kernel
theorem dX10_draws_77 : decode cX10_draws 77 = .ok (.iload_n 3, 1) := by decide +kernel
theorem dX10_draws_78 : decode cX10_draws 78 = .ok (.ifCond .eq 47, 3) := by decide +kernel
theorem dX10_draws_57 : decode cX10_draws 57 = .ok (.iconst 1, 1) := by decide +kernel
theorem dX10_draws_58 : decode cX10_draws 58 = .ok (.goto 4, 3) := by decide +kernel
theorem dX10_draws_81 : decode cX10_draws 81 = .ok (.aload_n 0, 1) := by decide +kernel
theorem dX10_draws_82 : decode cX10_draws 82 = .ok (.getfield 108, 3) := by decide +kernel
theorem dX10_draws_85 : decode cX10_draws 85 = .ok (.iload 6, 2) := by decide +kernel
theorem dX10_draws_87 : decode cX10_draws 87 = .ok (.iaload, 1) := by decide +kernel
theorem dX10_draws_88 : decode cX10_draws 88 = .ok (.ifCond .ne 31, 3) := by decide +kernel
theorem dX10_draws_119 : decode cX10_draws 119 = .ok (.iinc 6 1, 3) := by decide +kernel
theorem dX10_draws_122 : decode cX10_draws 122 = .ok (.goto (-56), 3) := by decide +kernel
theorem dX10_draws_91 : decode cX10_draws 91 = .ok (.aload_n 0, 1) := by decide +kernel
theorem dX10_draws_92 : decode cX10_draws 92 = .ok (.invokevirtual 487, 3) := by decide +kernel
theorem dX10_draws_95 : decode cX10_draws 95 = .ok (.aload_n 0, 1) := by decide +kernel
theorem dX10_draws_96 : decode cX10_draws 96 = .ok (.iload 6, 2) := by decide +kernel
theorem dX10_draws_98 : decode cX10_draws 98 = .ok (.invokevirtual 293, 3) := by decide +kernel
theorem dX10_draws_101 : decode cX10_draws 101 = .ok (.if_icmp .lt 6, 3) := by decide +kernel
theorem dX10_draws_107 : decode cX10_draws 107 = .ok (.aload_n 0, 1) := by decide +kernel
theorem dX10_draws_108 : decode cX10_draws 108 = .ok (.getfield 108, 3) := by decide +kernel
theorem dX10_draws_111 : decode cX10_draws 111 = .ok (.iload 6, 2) := by decide +kernel
theorem dX10_draws_113 : decode cX10_draws 113 = .ok (.iload 5, 2) := by decide +kernel
theorem dX10_draws_115 : decode cX10_draws 115 = .ok (.iastore, 1) := by decide +kernel
theorem dX10_draws_116 : decode cX10_draws 116 = .ok (.iinc 4 1, 3) := by decide +kernel
theorem dX10_draws_104 : decode cX10_draws 104 = .ok (.goto 15, 3) := by decide +kernel
theorem dX10_draws_8 : decode cX10_draws 8 = .ok (.aload_n 0, 1) := by decide +kernel
theorem dX10_draws_9 : decode cX10_draws 9 = .ok (.getfield 108, 3) := by decide +kernel
theorem dX10_draws_12 : decode cX10_draws 12 = .ok (.iload_n 3, 1) := by decide +kernel
theorem dX10_draws_13 : decode cX10_draws 13 = .ok (.iconst 0, 1) := by decide +kernel
theorem dX10_draws_14 : decode cX10_draws 14 = .ok (.iastore, 1) := by decide +kernel
theorem dX10_draws_15 : decode cX10_draws 15 = .ok (.iinc 3 1, 3) := by decide +kernel
theorem dX10_draws_18 : decode cX10_draws 18 = .ok (.goto (-16), 3) := by decide +kernel
theorem dX10_tellsYear_0 : decode cX10_tellsYear 0 = .ok (.iconst 0, 1) := by decide +kernel
theorem dX10_tellsYear_1 : decode cX10_tellsYear 1 = .ok (.istore_n 1, 1) := by decide +kernel
theorem dX10_tellsYear_2 : decode cX10_tellsYear 2 = .ok (.iload_n 1, 1) := by decide +kernel
theorem dX10_tellsYear_3 : decode cX10_tellsYear 3 = .ok (.bipush 6, 2) := by decide +kernel
theorem dX10_tellsYear_5 : decode cX10_tellsYear 5 = .ok (.if_icmp .ge 21, 3) := by decide +kernel
theorem dX10_tellsYear_26 : decode cX10_tellsYear 26 = .ok (.aload_n 0, 1) := by decide +kernel
theorem dX10_tellsYear_27 : decode cX10_tellsYear 27 = .ok (.getfield 62, 3) := by decide +kernel
theorem dX10_tellsYear_30 : decode cX10_tellsYear 30 = .ok (.iconst 0, 1) := by decide +kernel
theorem dX10_tellsYear_31 : decode cX10_tellsYear 31 = .ok (.iconst 1, 1) := by decide +kernel
theorem dX10_tellsYear_32 : decode cX10_tellsYear 32 = .ok (.iastore, 1) := by decide +kernel
theorem dX10_tellsYear_33 : decode cX10_tellsYear 33 = .ok (.return_, 1) := by decide +kernel
theorem dX10_tellsYear_8 : decode cX10_tellsYear 8 = .ok (.aload_n 0, 1) := by decide +kernel
theorem dX10_tellsYear_9 : decode cX10_tellsYear 9 = .ok (.getfield 65, 3) := by decide +kernel
theorem dX10_tellsYear_12 : decode cX10_tellsYear 12 = .ok (.iload_n 1, 1) := by decide +kernel
theorem dX10_tellsYear_13 : decode cX10_tellsYear 13 = .ok (.aload_n 0, 1) := by decide +kernel
theorem dX10_tellsYear_14 : decode cX10_tellsYear 14 = .ok (.getfield 108, 3) := by decide +kernel
theorem dX10_tellsYear_17 : decode cX10_tellsYear 17 = .ok (.iload_n 1, 1) := by decide +kernel
theorem dX10_tellsYear_18 : decode cX10_tellsYear 18 = .ok (.iaload, 1) := by decide +kernel
theorem dX10_tellsYear_19 : decode cX10_tellsYear 19 = .ok (.iastore, 1) := by decide +kernel
theorem dX10_tellsYear_20 : decode cX10_tellsYear 20 = .ok (.iinc 1 1, 3) := by decide +kernel
theorem dX10_tellsYear_23 : decode cX10_tellsYear 23 = .ok (.goto (-21), 3) := by decide +kernel
theorem dX10_run_0 : decode cX10_run 0 = .ok (.aload_n 0, 1) := by decide +kernel
theorem dX10_run_1 : decode cX10_run 1 = .ok (.iconst 0, 1) := by decide +kernel
theorem dX10_run_2 : decode cX10_run 2 = .ok (.putfield 111, 3) := by decide +kernel
theorem dX10_run_5 : decode cX10_run 5 = .ok (.iload_n 1, 1) := by decide +kernel
theorem dX10_run_6 : decode cX10_run 6 = .ok (.invokestatic 492, 3) := by decide +kernel
theorem dX10_run_9 : decode cX10_run 9 = .ok (.ifCond .eq 10, 3) := by decide +kernel
theorem dX10_run_12 : decode cX10_run 12 = .ok (.aload_n 0, 1) := by decide +kernel
theorem dX10_run_13 : decode cX10_run 13 = .ok (.invokevirtual 278, 3) := by decide +kernel
theorem dX10_run_16 : decode cX10_run 16 = .ok (.ifCond .ne 6, 3) := by decide +kernel
theorem dX10_run_22 : decode cX10_run 22 = .ok (.aload_n 0, 1) := by decide +kernel
theorem dX10_run_23 : decode cX10_run 23 = .ok (.iload_n 1, 1) := by decide +kernel
theorem dX10_run_24 : decode cX10_run 24 = .ok (.i2l, 1) := by decide +kernel
theorem dX10_run_25 : decode cX10_run 25 = .ok (.invokevirtual 495, 3) := by decide +kernel
theorem dX10_run_28 : decode cX10_run 28 = .ok (.istore_n 2, 1) := by decide +kernel
theorem dX10_run_29 : decode cX10_run 29 = .ok (.aload_n 0, 1) := by decide +kernel
theorem dX10_run_30 : decode cX10_run 30 = .ok (.invokevirtual 499, 3) := by decide +kernel
theorem dX10_run_33 : decode cX10_run 33 = .ok (.iload_n 2, 1) := by decide +kernel
theorem dX10_run_34 : decode cX10_run 34 = .ok (.ireturn, 1) := by decide +kernel
theorem dX10_run_19 : decode cX10_run 19 = .ok (.bipush (-2), 2) := by decide +kernel
theorem dX10_run_21 : decode cX10_run 21 = .ok (.ireturn, 1) := by decide +kernel
theorem dX10_told_0 : decode cX10_told 0 = .ok (.aload_n 0, 1) := by decide +kernel
theorem dX10_told_1 : decode cX10_told 1 = .ok (.iconst 0, 1) := by decide +kernel
theorem dX10_told_2 : decode cX10_told 2 = .ok (.putfield 111, 3) := by decide +kernel
theorem dX10_told_5 : decode cX10_told 5 = .ok (.iload_n 1, 1) := by decide +kernel
theorem dX10_told_6 : decode cX10_told 6 = .ok (.invokestatic 120, 3) := by decide +kernel
theorem dX10_told_9 : decode cX10_told 9 = .ok (.ifCond .eq 10, 3) := by decide +kernel
theorem dX10_told_12 : decode cX10_told 12 = .ok (.aload_n 0, 1) := by decide +kernel
theorem dX10_told_13 : decode cX10_told 13 = .ok (.invokevirtual 278, 3) := by decide +kernel
theorem dX10_told_16 : decode cX10_told 16 = .ok (.ifCond .ne 6, 3) := by decide +kernel
theorem dX10_told_22 : decode cX10_told 22 = .ok (.aload_n 0, 1) := by decide +kernel
theorem dX10_told_23 : decode cX10_told 23 = .ok (.getfield 7, 3) := by decide +kernel
theorem dX10_told_26 : decode cX10_told 26 = .ok (.iload_n 1, 1) := by decide +kernel
theorem dX10_told_27 : decode cX10_told 27 = .ok (.iaload, 1) := by decide +kernel
theorem dX10_told_28 : decode cX10_told 28 = .ok (.iconst (-1), 1) := by decide +kernel
theorem dX10_told_29 : decode cX10_told 29 = .ok (.if_icmp .ne 6, 3) := by decide +kernel
theorem dX10_told_35 : decode cX10_told 35 = .ok (.aload_n 0, 1) := by decide +kernel
theorem dX10_told_36 : decode cX10_told 36 = .ok (.getfield 13, 3) := by decide +kernel
theorem dX10_told_39 : decode cX10_told 39 = .ok (.iload_n 1, 1) := by decide +kernel
theorem dX10_told_40 : decode cX10_told 40 = .ok (.iaload, 1) := by decide +kernel
theorem dX10_told_41 : decode cX10_told 41 = .ok (.aload_n 0, 1) := by decide +kernel
theorem dX10_told_42 : decode cX10_told 42 = .ok (.invokevirtual 278, 3) := by decide +kernel
theorem dX10_told_45 : decode cX10_told 45 = .ok (.if_icmp .le 6, 3) := by decide +kernel
theorem dX10_told_51 : decode cX10_told 51 = .ok (.iconst 0, 1) := by decide +kernel
theorem dX10_told_52 : decode cX10_told 52 = .ok (.istore_n 2, 1) := by decide +kernel
theorem dX10_told_53 : decode cX10_told 53 = .ok (.iload_n 2, 1) := by decide +kernel
theorem dX10_told_54 : decode cX10_told 54 = .ok (.aload_n 0, 1) := by decide +kernel
theorem dX10_told_55 : decode cX10_told 55 = .ok (.getfield 13, 3) := by decide +kernel
theorem dX10_told_58 : decode cX10_told 58 = .ok (.iload_n 1, 1) := by decide +kernel
theorem dX10_told_59 : decode cX10_told 59 = .ok (.iaload, 1) := by decide +kernel
theorem dX10_told_60 : decode cX10_told 60 = .ok (.if_icmp .ge 40, 3) := by decide +kernel
theorem dX10_told_100 : decode cX10_told 100 = .ok (.iconst 0, 1) := by decide +kernel
theorem dX10_told_101 : decode cX10_told 101 = .ok (.istore_n 2, 1) := by decide +kernel
theorem dX10_told_102 : decode cX10_told 102 = .ok (.iload_n 2, 1) := by decide +kernel
theorem dX10_told_103 : decode cX10_told 103 = .ok (.bipush 6, 2) := by decide +kernel
theorem dX10_told_105 : decode cX10_told 105 = .ok (.if_icmp .ge 16, 3) := by decide +kernel
theorem dX10_told_121 : decode cX10_told 121 = .ok (.iconst 0, 1) := by decide +kernel
theorem dX10_told_122 : decode cX10_told 122 = .ok (.istore_n 2, 1) := by decide +kernel
theorem dX10_told_123 : decode cX10_told 123 = .ok (.iconst 0, 1) := by decide +kernel
theorem dX10_told_124 : decode cX10_told 124 = .ok (.istore_n 3, 1) := by decide +kernel
theorem dX10_told_125 : decode cX10_told 125 = .ok (.iload_n 3, 1) := by decide +kernel
theorem dX10_told_126 : decode cX10_told 126 = .ok (.aload_n 0, 1) := by decide +kernel
theorem dX10_told_127 : decode cX10_told 127 = .ok (.getfield 13, 3) := by decide +kernel
theorem dX10_told_130 : decode cX10_told 130 = .ok (.iload_n 1, 1) := by decide +kernel
theorem dX10_told_131 : decode cX10_told 131 = .ok (.iaload, 1) := by decide +kernel
theorem dX10_told_132 : decode cX10_told 132 = .ok (.if_icmp .ge 76, 3) := by decide +kernel
theorem dX10_told_208 : decode cX10_told 208 = .ok (.aload_n 0, 1) := by decide +kernel
theorem dX10_told_209 : decode cX10_told 209 = .ok (.invokevirtual 499, 3) := by decide +kernel
theorem dX10_told_212 : decode cX10_told 212 = .ok (.iload_n 2, 1) := by decide +kernel
theorem dX10_told_213 : decode cX10_told 213 = .ok (.ireturn, 1) := by decide +kernel
theorem dX10_told_135 : decode cX10_told 135 = .ok (.iconst 0, 1) := by decide +kernel
theorem dX10_told_136 : decode cX10_told 136 = .ok (.istore 4, 2) := by decide +kernel
theorem dX10_told_138 : decode cX10_told 138 = .ok (.iload 4, 2) := by decide +kernel
theorem dX10_told_140 : decode cX10_told 140 = .ok (.aload_n 0, 1) := by decide +kernel
theorem dX10_told_141 : decode cX10_told 141 = .ok (.getfield 43, 3) := by decide +kernel
theorem dX10_told_144 : decode cX10_told 144 = .ok (.iconst 0, 1) := by decide +kernel
theorem dX10_told_145 : decode cX10_told 145 = .ok (.iaload, 1) := by decide +kernel
theorem dX10_told_146 : decode cX10_told 146 = .ok (.if_icmp .ge 56, 3) := by decide +kernel
theorem dX10_told_202 : decode cX10_told 202 = .ok (.iinc 3 1, 3) := by decide +kernel
theorem dX10_told_205 : decode cX10_told 205 = .ok (.goto (-80), 3) := by decide +kernel
theorem dX10_told_149 : decode cX10_told 149 = .ok (.aload_n 0, 1) := by decide +kernel
theorem dX10_told_150 : decode cX10_told 150 = .ok (.getfield 16, 3) := by decide +kernel
theorem dX10_told_153 : decode cX10_told 153 = .ok (.bipush 60, 2) := by decide +kernel
theorem dX10_told_155 : decode cX10_told 155 = .ok (.iload_n 1, 1) := by decide +kernel
theorem dX10_told_156 : decode cX10_told 156 = .ok (.imul, 1) := by decide +kernel
theorem dX10_told_157 : decode cX10_told 157 = .ok (.iload_n 3, 1) := by decide +kernel
theorem dX10_told_158 : decode cX10_told 158 = .ok (.iadd, 1) := by decide +kernel
theorem dX10_told_159 : decode cX10_told 159 = .ok (.laload, 1) := by decide +kernel
theorem dX10_told_160 : decode cX10_told 160 = .ok (.iload 4, 2) := by decide +kernel
theorem dX10_told_162 : decode cX10_told 162 = .ok (.lshr, 1) := by decide +kernel
theorem dX10_told_163 : decode cX10_told 163 = .ok (.lconst 1, 1) := by decide +kernel
theorem dX10_told_164 : decode cX10_told 164 = .ok (.land, 1) := by decide +kernel
theorem dX10_told_165 : decode cX10_told 165 = .ok (.lconst 0, 1) := by decide +kernel
theorem dX10_told_166 : decode cX10_told 166 = .ok (.lcmp, 1) := by decide +kernel
theorem dX10_told_167 : decode cX10_told 167 = .ok (.ifCond .eq 29, 3) := by decide +kernel
theorem dX10_told_196 : decode cX10_told 196 = .ok (.iinc 4 1, 3) := by decide +kernel
theorem dX10_told_199 : decode cX10_told 199 = .ok (.goto (-61), 3) := by decide +kernel
theorem dX10_told_170 : decode cX10_told 170 = .ok (.aload_n 0, 1) := by decide +kernel
theorem dX10_told_171 : decode cX10_told 171 = .ok (.getfield 108, 3) := by decide +kernel
theorem dX10_told_174 : decode cX10_told 174 = .ok (.iload 4, 2) := by decide +kernel
theorem dX10_told_176 : decode cX10_told 176 = .ok (.iaload, 1) := by decide +kernel
theorem dX10_told_177 : decode cX10_told 177 = .ok (.ifCond .eq 6, 3) := by decide +kernel
theorem dX10_told_183 : decode cX10_told 183 = .ok (.aload_n 0, 1) := by decide +kernel
theorem dX10_told_184 : decode cX10_told 184 = .ok (.getfield 108, 3) := by decide +kernel
theorem dX10_told_187 : decode cX10_told 187 = .ok (.iload 4, 2) := by decide +kernel
theorem dX10_told_189 : decode cX10_told 189 = .ok (.iload_n 3, 1) := by decide +kernel
theorem dX10_told_190 : decode cX10_told 190 = .ok (.iconst 1, 1) := by decide +kernel
theorem dX10_told_191 : decode cX10_told 191 = .ok (.iadd, 1) := by decide +kernel
theorem dX10_told_192 : decode cX10_told 192 = .ok (.iastore, 1) := by decide +kernel
theorem dX10_told_193 : decode cX10_told 193 = .ok (.iinc 2 1, 3) := by decide +kernel
theorem dX10_told_180 : decode cX10_told 180 = .ok (.goto 16, 3) := by decide +kernel
theorem dX10_told_108 : decode cX10_told 108 = .ok (.aload_n 0, 1) := by decide +kernel
theorem dX10_told_109 : decode cX10_told 109 = .ok (.getfield 108, 3) := by decide +kernel
theorem dX10_told_112 : decode cX10_told 112 = .ok (.iload_n 2, 1) := by decide +kernel
theorem dX10_told_113 : decode cX10_told 113 = .ok (.iconst 0, 1) := by decide +kernel
theorem dX10_told_114 : decode cX10_told 114 = .ok (.iastore, 1) := by decide +kernel
theorem dX10_told_115 : decode cX10_told 115 = .ok (.iinc 2 1, 3) := by decide +kernel
theorem dX10_told_118 : decode cX10_told 118 = .ok (.goto (-16), 3) := by decide +kernel
theorem dX10_told_63 : decode cX10_told 63 = .ok (.aload_n 0, 1) := by decide +kernel
theorem dX10_told_64 : decode cX10_told 64 = .ok (.getfield 16, 3) := by decide +kernel
theorem dX10_told_67 : decode cX10_told 67 = .ok (.bipush 60, 2) := by decide +kernel
theorem dX10_told_69 : decode cX10_told 69 = .ok (.iload_n 1, 1) := by decide +kernel
theorem dX10_told_70 : decode cX10_told 70 = .ok (.imul, 1) := by decide +kernel
theorem dX10_told_71 : decode cX10_told 71 = .ok (.iload_n 2, 1) := by decide +kernel
theorem dX10_told_72 : decode cX10_told 72 = .ok (.iadd, 1) := by decide +kernel
theorem dX10_told_73 : decode cX10_told 73 = .ok (.laload, 1) := by decide +kernel
theorem dX10_told_74 : decode cX10_told 74 = .ok (.lconst 0, 1) := by decide +kernel
theorem dX10_told_75 : decode cX10_told 75 = .ok (.lconst 1, 1) := by decide +kernel
theorem dX10_told_76 : decode cX10_told 76 = .ok (.aload_n 0, 1) := by decide +kernel
theorem dX10_told_77 : decode cX10_told 77 = .ok (.getfield 43, 3) := by decide +kernel
theorem dX10_told_80 : decode cX10_told 80 = .ok (.iconst 0, 1) := by decide +kernel
theorem dX10_told_81 : decode cX10_told 81 = .ok (.iaload, 1) := by decide +kernel
theorem dX10_told_82 : decode cX10_told 82 = .ok (.lshl, 1) := by decide +kernel
theorem dX10_told_83 : decode cX10_told 83 = .ok (.lconst 1, 1) := by decide +kernel
theorem dX10_told_84 : decode cX10_told 84 = .ok (.lsub, 1) := by decide +kernel
theorem dX10_told_85 : decode cX10_told 85 = .ok (.invokestatic 116, 3) := by decide +kernel
theorem dX10_told_88 : decode cX10_told 88 = .ok (.ifCond .ne 6, 3) := by decide +kernel
theorem dX10_told_94 : decode cX10_told 94 = .ok (.iinc 2 1, 3) := by decide +kernel
theorem dX10_told_97 : decode cX10_told 97 = .ok (.goto (-44), 3) := by decide +kernel
theorem dX10_told_91 : decode cX10_told 91 = .ok (.bipush (-2), 2) := by decide +kernel
theorem dX10_told_93 : decode cX10_told 93 = .ok (.ireturn, 1) := by decide +kernel
theorem dX10_told_48 : decode cX10_told 48 = .ok (.bipush (-2), 2) := by decide +kernel
theorem dX10_told_50 : decode cX10_told 50 = .ok (.ireturn, 1) := by decide +kernel
theorem dX10_told_32 : decode cX10_told 32 = .ok (.bipush (-6), 2) := by decide +kernel
theorem dX10_told_34 : decode cX10_told 34 = .ok (.ireturn, 1) := by decide +kernel
theorem dX10_told_19 : decode cX10_told 19 = .ok (.bipush (-2), 2) := by decide +kernel
theorem dX10_told_21 : decode cX10_told 21 = .ok (.ireturn, 1) := by decide +kernel
theorem dX10_shut_0 : decode cX10_shut 0 = .ok (.aload_n 0, 1) := by decide +kernel
theorem dX10_shut_1 : decode cX10_shut 1 = .ok (.iconst 0, 1) := by decide +kernel
theorem dX10_shut_2 : decode cX10_shut 2 = .ok (.putfield 111, 3) := by decide +kernel
theorem dX10_shut_5 : decode cX10_shut 5 = .ok (.aload_n 0, 1) := by decide +kernel
theorem dX10_shut_6 : decode cX10_shut 6 = .ok (.iload_n 1, 1) := by decide +kernel
theorem dX10_shut_7 : decode cX10_shut 7 = .ok (.invokevirtual 297, 3) := by decide +kernel
theorem dX10_shut_10 : decode cX10_shut 10 = .ok (.ifCond .ne 8, 3) := by decide +kernel
theorem dX10_shut_18 : decode cX10_shut 18 = .ok (.aload_n 0, 1) := by decide +kernel
theorem dX10_shut_19 : decode cX10_shut 19 = .ok (.getfield 62, 3) := by decide +kernel
theorem dX10_shut_22 : decode cX10_shut 22 = .ok (.iconst 0, 1) := by decide +kernel
theorem dX10_shut_23 : decode cX10_shut 23 = .ok (.iaload, 1) := by decide +kernel
theorem dX10_shut_24 : decode cX10_shut 24 = .ok (.ifCond .ne 7, 3) := by decide +kernel
theorem dX10_shut_31 : decode cX10_shut 31 = .ok (.aload_n 0, 1) := by decide +kernel
theorem dX10_shut_32 : decode cX10_shut 32 = .ok (.getfield 65, 3) := by decide +kernel
theorem dX10_shut_35 : decode cX10_shut 35 = .ok (.iload_n 1, 1) := by decide +kernel
theorem dX10_shut_36 : decode cX10_shut 36 = .ok (.iaload, 1) := by decide +kernel
theorem dX10_shut_37 : decode cX10_shut 37 = .ok (.ireturn, 1) := by decide +kernel
theorem dX10_shut_27 : decode cX10_shut 27 = .ok (.iconst (-1), 1) := by decide +kernel
theorem dX10_shut_28 : decode cX10_shut 28 = .ok (.goto 9, 3) := by decide +kernel
theorem dX10_shut_13 : decode cX10_shut 13 = .ok (.bipush (-2), 2) := by decide +kernel
theorem dX10_shut_15 : decode cX10_shut 15 = .ok (.goto 22, 3) := by decide +kernel
theorem dX10_firstLack_0 : decode cX10_firstLack 0 = .ok (.iload_n 3, 1) := by decide +kernel
theorem dX10_firstLack_1 : decode cX10_firstLack 1 = .ok (.ifCond .ne 5, 3) := by decide +kernel
theorem dX10_firstLack_6 : decode cX10_firstLack 6 = .ok (.iload_n 3, 1) := by decide +kernel
theorem dX10_firstLack_7 : decode cX10_firstLack 7 = .ok (.iconst 1, 1) := by decide +kernel
theorem dX10_firstLack_8 : decode cX10_firstLack 8 = .ok (.iadd, 1) := by decide +kernel
theorem dX10_firstLack_9 : decode cX10_firstLack 9 = .ok (.istore 5, 2) := by decide +kernel
theorem dX10_firstLack_11 : decode cX10_firstLack 11 = .ok (.iload 5, 2) := by decide +kernel
theorem dX10_firstLack_13 : decode cX10_firstLack 13 = .ok (.aload_n 0, 1) := by decide +kernel
theorem dX10_firstLack_14 : decode cX10_firstLack 14 = .ok (.invokevirtual 278, 3) := by decide +kernel
theorem dX10_firstLack_17 : decode cX10_firstLack 17 = .ok (.if_icmp .gt 28, 3) := by decide +kernel
theorem dX10_firstLack_45 : decode cX10_firstLack 45 = .ok (.iconst 0, 1) := by decide +kernel
theorem dX10_firstLack_46 : decode cX10_firstLack 46 = .ok (.ireturn, 1) := by decide +kernel
theorem dX10_firstLack_20 : decode cX10_firstLack 20 = .ok (.aload_n 0, 1) := by decide +kernel
theorem dX10_firstLack_21 : decode cX10_firstLack 21 = .ok (.iload_n 1, 1) := by decide +kernel
theorem dX10_firstLack_22 : decode cX10_firstLack 22 = .ok (.iload_n 2, 1) := by decide +kernel
theorem dX10_firstLack_23 : decode cX10_firstLack 23 = .ok (.invokevirtual 347, 3) := by decide +kernel
theorem dX10_firstLack_26 : decode cX10_firstLack 26 = .ok (.iload 5, 2) := by decide +kernel
theorem dX10_firstLack_28 : decode cX10_firstLack 28 = .ok (.iload_n 3, 1) := by decide +kernel
theorem dX10_firstLack_29 : decode cX10_firstLack 29 = .ok (.isub, 1) := by decide +kernel
theorem dX10_firstLack_30 : decode cX10_firstLack 30 = .ok (.imul, 1) := by decide +kernel
theorem dX10_firstLack_31 : decode cX10_firstLack 31 = .ok (.iload 4, 2) := by decide +kernel
theorem dX10_firstLack_33 : decode cX10_firstLack 33 = .ok (.if_icmp .le 6, 3) := by decide +kernel
theorem dX10_firstLack_39 : decode cX10_firstLack 39 = .ok (.iinc 5 1, 3) := by decide +kernel
theorem dX10_firstLack_42 : decode cX10_firstLack 42 = .ok (.goto (-31), 3) := by decide +kernel
theorem dX10_firstLack_36 : decode cX10_firstLack 36 = .ok (.iload 5, 2) := by decide +kernel
theorem dX10_firstLack_38 : decode cX10_firstLack 38 = .ok (.ireturn, 1) := by decide +kernel
theorem dX10_firstLack_4 : decode cX10_firstLack 4 = .ok (.iconst 0, 1) := by decide +kernel
theorem dX10_firstLack_5 : decode cX10_firstLack 5 = .ok (.ireturn, 1) := by decide +kernel
theorem dX10_above_0 : decode cX10_above 0 = .ok (.iload_n 0, 1) := by decide +kernel
theorem dX10_above_1 : decode cX10_above 1 = .ok (.iload_n 1, 1) := by decide +kernel
theorem dX10_above_2 : decode cX10_above 2 = .ok (.if_icmp .le 9, 3) := by decide +kernel
theorem dX10_above_11 : decode cX10_above 11 = .ok (.iconst 0, 1) := by decide +kernel
theorem dX10_above_12 : decode cX10_above 12 = .ok (.ireturn, 1) := by decide +kernel
theorem dX10_above_5 : decode cX10_above 5 = .ok (.iload_n 0, 1) := by decide +kernel
theorem dX10_above_6 : decode cX10_above 6 = .ok (.iload_n 1, 1) := by decide +kernel
theorem dX10_above_7 : decode cX10_above 7 = .ok (.isub, 1) := by decide +kernel
theorem dX10_above_8 : decode cX10_above 8 = .ok (.goto 4, 3) := by decide +kernel
theorem dX10_lacks_0 : decode cX10_lacks 0 = .ok (.aload_n 0, 1) := by decide +kernel
theorem dX10_lacks_1 : decode cX10_lacks 1 = .ok (.iconst 0, 1) := by decide +kernel
theorem dX10_lacks_2 : decode cX10_lacks 2 = .ok (.putfield 111, 3) := by decide +kernel
theorem dX10_lacks_5 : decode cX10_lacks 5 = .ok (.aload_n 0, 1) := by decide +kernel
theorem dX10_lacks_6 : decode cX10_lacks 6 = .ok (.iload_n 1, 1) := by decide +kernel
theorem dX10_lacks_7 : decode cX10_lacks 7 = .ok (.iload_n 2, 1) := by decide +kernel
theorem dX10_lacks_8 : decode cX10_lacks 8 = .ok (.iload_n 3, 1) := by decide +kernel
theorem dX10_lacks_9 : decode cX10_lacks 9 = .ok (.invokevirtual 375, 3) := by decide +kernel
theorem dX10_lacks_12 : decode cX10_lacks 12 = .ok (.ifCond .eq 16, 3) := by decide +kernel
theorem dX10_lacks_15 : decode cX10_lacks 15 = .ok (.iload 4, 2) := by decide +kernel
theorem dX10_lacks_17 : decode cX10_lacks 17 = .ok (.i2l, 1) := by decide +kernel
theorem dX10_lacks_18 : decode cX10_lacks 18 = .ok (.lconst 0, 1) := by decide +kernel
theorem dX10_lacks_19 : decode cX10_lacks 19 = .ok (.ldc2_w 502, 3) := by decide +kernel
theorem dX10_lacks_22 : decode cX10_lacks 22 = .ok (.invokestatic 116, 3) := by decide +kernel
theorem dX10_lacks_25 : decode cX10_lacks 25 = .ok (.ifCond .ne 6, 3) := by decide +kernel
theorem dX10_lacks_31 : decode cX10_lacks 31 = .ok (.aload_n 0, 1) := by decide +kernel
theorem dX10_lacks_32 : decode cX10_lacks 32 = .ok (.getfield 62, 3) := by decide +kernel
theorem dX10_lacks_35 : decode cX10_lacks 35 = .ok (.iconst 0, 1) := by decide +kernel
theorem dX10_lacks_36 : decode cX10_lacks 36 = .ok (.iaload, 1) := by decide +kernel
theorem dX10_lacks_37 : decode cX10_lacks 37 = .ok (.ifCond .ne 5, 3) := by decide +kernel
theorem dX10_lacks_42 : decode cX10_lacks 42 = .ok (.aload_n 0, 1) := by decide +kernel
theorem dX10_lacks_43 : decode cX10_lacks 43 = .ok (.iload_n 1, 1) := by decide +kernel
theorem dX10_lacks_44 : decode cX10_lacks 44 = .ok (.iload_n 2, 1) := by decide +kernel
theorem dX10_lacks_45 : decode cX10_lacks 45 = .ok (.aload_n 0, 1) := by decide +kernel
theorem dX10_lacks_46 : decode cX10_lacks 46 = .ok (.getfield 65, 3) := by decide +kernel
theorem dX10_lacks_49 : decode cX10_lacks 49 = .ok (.iload_n 1, 1) := by decide +kernel
theorem dX10_lacks_50 : decode cX10_lacks 50 = .ok (.iaload, 1) := by decide +kernel
theorem dX10_lacks_51 : decode cX10_lacks 51 = .ok (.invokevirtual 353, 3) := by decide +kernel
theorem dX10_lacks_54 : decode cX10_lacks 54 = .ok (.istore 5, 2) := by decide +kernel
theorem dX10_lacks_56 : decode cX10_lacks 56 = .ok (.iload 4, 2) := by decide +kernel
theorem dX10_lacks_58 : decode cX10_lacks 58 = .ok (.ifCond .ne 12, 3) := by decide +kernel
theorem dX10_lacks_70 : decode cX10_lacks 70 = .ok (.iload 4, 2) := by decide +kernel
theorem dX10_lacks_72 : decode cX10_lacks 72 = .ok (.iconst 1, 1) := by decide +kernel
theorem dX10_lacks_73 : decode cX10_lacks 73 = .ok (.if_icmp .ne 12, 3) := by decide +kernel
theorem dX10_lacks_85 : decode cX10_lacks 85 = .ok (.aload_n 0, 1) := by decide +kernel
theorem dX10_lacks_86 : decode cX10_lacks 86 = .ok (.iload_n 1, 1) := by decide +kernel
theorem dX10_lacks_87 : decode cX10_lacks 87 = .ok (.iload_n 2, 1) := by decide +kernel
theorem dX10_lacks_88 : decode cX10_lacks 88 = .ok (.aload_n 0, 1) := by decide +kernel
theorem dX10_lacks_89 : decode cX10_lacks 89 = .ok (.getfield 65, 3) := by decide +kernel
theorem dX10_lacks_92 : decode cX10_lacks 92 = .ok (.iload_n 1, 1) := by decide +kernel
theorem dX10_lacks_93 : decode cX10_lacks 93 = .ok (.iaload, 1) := by decide +kernel
theorem dX10_lacks_94 : decode cX10_lacks 94 = .ok (.iload_n 3, 1) := by decide +kernel
theorem dX10_lacks_95 : decode cX10_lacks 95 = .ok (.invokevirtual 507, 3) := by decide +kernel
theorem dX10_lacks_98 : decode cX10_lacks 98 = .ok (.ireturn, 1) := by decide +kernel
theorem dX10_lacks_76 : decode cX10_lacks 76 = .ok (.iload_n 3, 1) := by decide +kernel
theorem dX10_lacks_77 : decode cX10_lacks 77 = .ok (.iload 5, 2) := by decide +kernel
theorem dX10_lacks_79 : decode cX10_lacks 79 = .ok (.invokestatic 504, 3) := by decide +kernel
theorem dX10_lacks_82 : decode cX10_lacks 82 = .ok (.goto 16, 3) := by decide +kernel
theorem dX10_lacks_61 : decode cX10_lacks 61 = .ok (.iload 5, 2) := by decide +kernel
theorem dX10_lacks_63 : decode cX10_lacks 63 = .ok (.iload_n 3, 1) := by decide +kernel
theorem dX10_lacks_64 : decode cX10_lacks 64 = .ok (.invokestatic 504, 3) := by decide +kernel
theorem dX10_lacks_67 : decode cX10_lacks 67 = .ok (.goto 31, 3) := by decide +kernel
theorem dX10_lacks_40 : decode cX10_lacks 40 = .ok (.iconst (-1), 1) := by decide +kernel
theorem dX10_lacks_41 : decode cX10_lacks 41 = .ok (.ireturn, 1) := by decide +kernel
theorem dX10_lacks_28 : decode cX10_lacks 28 = .ok (.bipush (-2), 2) := by decide +kernel
theorem dX10_lacks_30 : decode cX10_lacks 30 = .ok (.ireturn, 1) := by decide +kernel
theorem dX10_judged_0 : decode cX10_judged 0 = .ok (.iconst 0, 1) := by decide +kernel
theorem dX10_judged_1 : decode cX10_judged 1 = .ok (.istore_n 3, 1) := by decide +kernel
theorem dX10_judged_2 : decode cX10_judged 2 = .ok (.iload_n 3, 1) := by decide +kernel
theorem dX10_judged_3 : decode cX10_judged 3 = .ok (.aload_n 0, 1) := by decide +kernel
theorem dX10_judged_4 : decode cX10_judged 4 = .ok (.getfield 13, 3) := by decide +kernel
theorem dX10_judged_7 : decode cX10_judged 7 = .ok (.iload_n 1, 1) := by decide +kernel
theorem dX10_judged_8 : decode cX10_judged 8 = .ok (.iaload, 1) := by decide +kernel
theorem dX10_judged_9 : decode cX10_judged 9 = .ok (.if_icmp .ge 68, 3) := by decide +kernel
theorem dX10_judged_77 : decode cX10_judged 77 = .ok (.iconst 0, 1) := by decide +kernel
theorem dX10_judged_78 : decode cX10_judged 78 = .ok (.ireturn, 1) := by decide +kernel
theorem dX10_judged_12 : decode cX10_judged 12 = .ok (.aload_n 0, 1) := by decide +kernel
theorem dX10_judged_13 : decode cX10_judged 13 = .ok (.getfield 16, 3) := by decide +kernel
theorem dX10_judged_16 : decode cX10_judged 16 = .ok (.bipush 60, 2) := by decide +kernel
theorem dX10_judged_18 : decode cX10_judged 18 = .ok (.iload_n 1, 1) := by decide +kernel
theorem dX10_judged_19 : decode cX10_judged 19 = .ok (.imul, 1) := by decide +kernel
theorem dX10_judged_20 : decode cX10_judged 20 = .ok (.iload_n 3, 1) := by decide +kernel
theorem dX10_judged_21 : decode cX10_judged 21 = .ok (.iadd, 1) := by decide +kernel
theorem dX10_judged_22 : decode cX10_judged 22 = .ok (.laload, 1) := by decide +kernel
theorem dX10_judged_23 : decode cX10_judged 23 = .ok (.lstore 4, 2) := by decide +kernel
theorem dX10_judged_25 : decode cX10_judged 25 = .ok (.lload 4, 2) := by decide +kernel
theorem dX10_judged_27 : decode cX10_judged 27 = .ok (.lconst 0, 1) := by decide +kernel
theorem dX10_judged_28 : decode cX10_judged 28 = .ok (.lcmp, 1) := by decide +kernel
theorem dX10_judged_29 : decode cX10_judged 29 = .ok (.ifCond .eq 42, 3) := by decide +kernel
theorem dX10_judged_71 : decode cX10_judged 71 = .ok (.iinc 3 1, 3) := by decide +kernel
theorem dX10_judged_74 : decode cX10_judged 74 = .ok (.goto (-72), 3) := by decide +kernel
theorem dX10_judged_32 : decode cX10_judged 32 = .ok (.lload 4, 2) := by decide +kernel
theorem dX10_judged_34 : decode cX10_judged 34 = .ok (.lconst 0, 1) := by decide +kernel
theorem dX10_judged_35 : decode cX10_judged 35 = .ok (.aload_n 0, 1) := by decide +kernel
theorem dX10_judged_36 : decode cX10_judged 36 = .ok (.getfield 55, 3) := by decide +kernel
theorem dX10_judged_39 : decode cX10_judged 39 = .ok (.iconst 0, 1) := by decide +kernel
theorem dX10_judged_40 : decode cX10_judged 40 = .ok (.iaload, 1) := by decide +kernel
theorem dX10_judged_41 : decode cX10_judged 41 = .ok (.i2l, 1) := by decide +kernel
theorem dX10_judged_42 : decode cX10_judged 42 = .ok (.invokestatic 116, 3) := by decide +kernel
theorem dX10_judged_45 : decode cX10_judged 45 = .ok (.ifCond .eq 22, 3) := by decide +kernel
theorem dX10_judged_48 : decode cX10_judged 48 = .ok (.aload_n 0, 1) := by decide +kernel
theorem dX10_judged_49 : decode cX10_judged 49 = .ok (.getfield 65, 3) := by decide +kernel
theorem dX10_judged_52 : decode cX10_judged 52 = .ok (.iload_n 2, 1) := by decide +kernel
theorem dX10_judged_53 : decode cX10_judged 53 = .ok (.iaload, 1) := by decide +kernel
theorem dX10_judged_54 : decode cX10_judged 54 = .ok (.ifCond .eq 17, 3) := by decide +kernel
theorem dX10_judged_57 : decode cX10_judged 57 = .ok (.aload_n 0, 1) := by decide +kernel
theorem dX10_judged_58 : decode cX10_judged 58 = .ok (.getfield 65, 3) := by decide +kernel
theorem dX10_judged_61 : decode cX10_judged 61 = .ok (.iload_n 2, 1) := by decide +kernel
theorem dX10_judged_62 : decode cX10_judged 62 = .ok (.iaload, 1) := by decide +kernel
theorem dX10_judged_63 : decode cX10_judged 63 = .ok (.iload_n 3, 1) := by decide +kernel
theorem dX10_judged_64 : decode cX10_judged 64 = .ok (.if_icmp .gt 7, 3) := by decide +kernel
theorem dX10_judged_67 : decode cX10_judged 67 = .ok (.iload_n 3, 1) := by decide +kernel
theorem dX10_judged_68 : decode cX10_judged 68 = .ok (.iconst 1, 1) := by decide +kernel
theorem dX10_judged_69 : decode cX10_judged 69 = .ok (.iadd, 1) := by decide +kernel
theorem dX10_judged_70 : decode cX10_judged 70 = .ok (.ireturn, 1) := by decide +kernel
theorem dX10_whyNotJudged_0 : decode cX10_whyNotJudged 0 = .ok (.iload_n 1, 1) := by decide +kernel
theorem dX10_whyNotJudged_1 : decode cX10_whyNotJudged 1 = .ok (.invokestatic 120, 3) := by decide +kernel
theorem dX10_whyNotJudged_4 : decode cX10_whyNotJudged 4 = .ok (.ifCond .eq 11, 3) := by decide +kernel
theorem dX10_whyNotJudged_7 : decode cX10_whyNotJudged 7 = .ok (.aload_n 0, 1) := by decide +kernel
theorem dX10_whyNotJudged_8 : decode cX10_whyNotJudged 8 = .ok (.iload_n 2, 1) := by decide +kernel
theorem dX10_whyNotJudged_9 : decode cX10_whyNotJudged 9 = .ok (.invokevirtual 297, 3) := by decide +kernel
theorem dX10_whyNotJudged_12 : decode cX10_whyNotJudged 12 = .ok (.ifCond .ne 6, 3) := by decide +kernel
theorem dX10_whyNotJudged_18 : decode cX10_whyNotJudged 18 = .ok (.aload_n 0, 1) := by decide +kernel
theorem dX10_whyNotJudged_19 : decode cX10_whyNotJudged 19 = .ok (.getfield 7, 3) := by decide +kernel
theorem dX10_whyNotJudged_22 : decode cX10_whyNotJudged 22 = .ok (.iload_n 1, 1) := by decide +kernel
theorem dX10_whyNotJudged_23 : decode cX10_whyNotJudged 23 = .ok (.iaload, 1) := by decide +kernel
theorem dX10_whyNotJudged_24 : decode cX10_whyNotJudged 24 = .ok (.iconst (-1), 1) := by decide +kernel
theorem dX10_whyNotJudged_25 : decode cX10_whyNotJudged 25 = .ok (.if_icmp .ne 6, 3) := by decide +kernel
theorem dX10_whyNotJudged_31 : decode cX10_whyNotJudged 31 = .ok (.aload_n 0, 1) := by decide +kernel
theorem dX10_whyNotJudged_32 : decode cX10_whyNotJudged 32 = .ok (.getfield 13, 3) := by decide +kernel
theorem dX10_whyNotJudged_35 : decode cX10_whyNotJudged 35 = .ok (.iload_n 1, 1) := by decide +kernel
theorem dX10_whyNotJudged_36 : decode cX10_whyNotJudged 36 = .ok (.iaload, 1) := by decide +kernel
theorem dX10_whyNotJudged_37 : decode cX10_whyNotJudged 37 = .ok (.aload_n 0, 1) := by decide +kernel
theorem dX10_whyNotJudged_38 : decode cX10_whyNotJudged 38 = .ok (.invokevirtual 278, 3) := by decide +kernel
theorem dX10_whyNotJudged_41 : decode cX10_whyNotJudged 41 = .ok (.if_icmp .le 6, 3) := by decide +kernel
theorem dX10_whyNotJudged_47 : decode cX10_whyNotJudged 47 = .ok (.aload_n 0, 1) := by decide +kernel
theorem dX10_whyNotJudged_48 : decode cX10_whyNotJudged 48 = .ok (.getfield 62, 3) := by decide +kernel
theorem dX10_whyNotJudged_51 : decode cX10_whyNotJudged 51 = .ok (.iconst 0, 1) := by decide +kernel
theorem dX10_whyNotJudged_52 : decode cX10_whyNotJudged 52 = .ok (.iaload, 1) := by decide +kernel
theorem dX10_whyNotJudged_53 : decode cX10_whyNotJudged 53 = .ok (.ifCond .ne 7, 3) := by decide +kernel
theorem dX10_whyNotJudged_60 : decode cX10_whyNotJudged 60 = .ok (.iconst 0, 1) := by decide +kernel
theorem dX10_whyNotJudged_61 : decode cX10_whyNotJudged 61 = .ok (.ireturn, 1) := by decide +kernel
theorem dX10_whyNotJudged_56 : decode cX10_whyNotJudged 56 = .ok (.iconst (-1), 1) := by decide +kernel
theorem dX10_whyNotJudged_57 : decode cX10_whyNotJudged 57 = .ok (.goto 4, 3) := by decide +kernel
theorem dX10_whyNotJudged_44 : decode cX10_whyNotJudged 44 = .ok (.bipush (-2), 2) := by decide +kernel
theorem dX10_whyNotJudged_46 : decode cX10_whyNotJudged 46 = .ok (.ireturn, 1) := by decide +kernel
theorem dX10_whyNotJudged_28 : decode cX10_whyNotJudged 28 = .ok (.bipush (-6), 2) := by decide +kernel
theorem dX10_whyNotJudged_30 : decode cX10_whyNotJudged 30 = .ok (.ireturn, 1) := by decide +kernel
theorem dX10_whyNotJudged_15 : decode cX10_whyNotJudged 15 = .ok (.bipush (-2), 2) := by decide +kernel
theorem dX10_whyNotJudged_17 : decode cX10_whyNotJudged 17 = .ok (.ireturn, 1) := by decide +kernel
theorem dX10_judge_0 : decode cX10_judge 0 = .ok (.aload_n 0, 1) := by decide +kernel
theorem dX10_judge_1 : decode cX10_judge 1 = .ok (.iconst 0, 1) := by decide +kernel
theorem dX10_judge_2 : decode cX10_judge 2 = .ok (.putfield 111, 3) := by decide +kernel
theorem dX10_judge_5 : decode cX10_judge 5 = .ok (.aload_n 0, 1) := by decide +kernel
theorem dX10_judge_6 : decode cX10_judge 6 = .ok (.iload_n 1, 1) := by decide +kernel
theorem dX10_judge_7 : decode cX10_judge 7 = .ok (.iload_n 2, 1) := by decide +kernel
theorem dX10_judge_8 : decode cX10_judge 8 = .ok (.invokevirtual 510, 3) := by decide +kernel
theorem dX10_judge_11 : decode cX10_judge 11 = .ok (.istore_n 3, 1) := by decide +kernel
theorem dX10_judge_12 : decode cX10_judge 12 = .ok (.iload_n 3, 1) := by decide +kernel
theorem dX10_judge_13 : decode cX10_judge 13 = .ok (.ifCond .eq 7, 3) := by decide +kernel
theorem dX10_judge_20 : decode cX10_judge 20 = .ok (.aload_n 0, 1) := by decide +kernel
theorem dX10_judge_21 : decode cX10_judge 21 = .ok (.iload_n 1, 1) := by decide +kernel
theorem dX10_judge_22 : decode cX10_judge 22 = .ok (.iload_n 2, 1) := by decide +kernel
theorem dX10_judge_23 : decode cX10_judge 23 = .ok (.invokevirtual 513, 3) := by decide +kernel
theorem dX10_judge_26 : decode cX10_judge 26 = .ok (.ireturn, 1) := by decide +kernel
theorem dX10_judge_16 : decode cX10_judge 16 = .ok (.iload_n 3, 1) := by decide +kernel
theorem dX10_judge_17 : decode cX10_judge 17 = .ok (.goto 9, 3) := by decide +kernel
theorem dX10_paid_0 : decode cX10_paid 0 = .ok (.aload_n 0, 1) := by decide +kernel
theorem dX10_paid_1 : decode cX10_paid 1 = .ok (.iconst 0, 1) := by decide +kernel
theorem dX10_paid_2 : decode cX10_paid 2 = .ok (.putfield 111, 3) := by decide +kernel
theorem dX10_paid_5 : decode cX10_paid 5 = .ok (.aload_n 0, 1) := by decide +kernel
theorem dX10_paid_6 : decode cX10_paid 6 = .ok (.iload_n 3, 1) := by decide +kernel
theorem dX10_paid_7 : decode cX10_paid 7 = .ok (.invokevirtual 350, 3) := by decide +kernel
theorem dX10_paid_10 : decode cX10_paid 10 = .ok (.ifCond .eq 21, 3) := by decide +kernel
theorem dX10_paid_13 : decode cX10_paid 13 = .ok (.aload_n 0, 1) := by decide +kernel
theorem dX10_paid_14 : decode cX10_paid 14 = .ok (.iload_n 1, 1) := by decide +kernel
theorem dX10_paid_15 : decode cX10_paid 15 = .ok (.iload_n 2, 1) := by decide +kernel
theorem dX10_paid_16 : decode cX10_paid 16 = .ok (.invokevirtual 510, 3) := by decide +kernel
theorem dX10_paid_19 : decode cX10_paid 19 = .ok (.ifCond .ne 12, 3) := by decide +kernel
theorem dX10_paid_22 : decode cX10_paid 22 = .ok (.aload_n 0, 1) := by decide +kernel
theorem dX10_paid_23 : decode cX10_paid 23 = .ok (.iload_n 1, 1) := by decide +kernel
theorem dX10_paid_24 : decode cX10_paid 24 = .ok (.iload_n 2, 1) := by decide +kernel
theorem dX10_paid_25 : decode cX10_paid 25 = .ok (.invokevirtual 513, 3) := by decide +kernel
theorem dX10_paid_28 : decode cX10_paid 28 = .ok (.ifCond .eq 7, 3) := by decide +kernel
theorem dX10_paid_35 : decode cX10_paid 35 = .ok (.iconst 0, 1) := by decide +kernel
theorem dX10_paid_36 : decode cX10_paid 36 = .ok (.istore 4, 2) := by decide +kernel
theorem dX10_paid_38 : decode cX10_paid 38 = .ok (.iconst 0, 1) := by decide +kernel
theorem dX10_paid_39 : decode cX10_paid 39 = .ok (.istore 5, 2) := by decide +kernel
theorem dX10_paid_41 : decode cX10_paid 41 = .ok (.iload 5, 2) := by decide +kernel
theorem dX10_paid_43 : decode cX10_paid 43 = .ok (.aload_n 0, 1) := by decide +kernel
theorem dX10_paid_44 : decode cX10_paid 44 = .ok (.getfield 13, 3) := by decide +kernel
theorem dX10_paid_47 : decode cX10_paid 47 = .ok (.iload_n 1, 1) := by decide +kernel
theorem dX10_paid_48 : decode cX10_paid 48 = .ok (.iaload, 1) := by decide +kernel
theorem dX10_paid_49 : decode cX10_paid 49 = .ok (.if_icmp .ge 27, 3) := by decide +kernel
theorem dX10_paid_76 : decode cX10_paid 76 = .ok (.iload 4, 2) := by decide +kernel
theorem dX10_paid_78 : decode cX10_paid 78 = .ok (.aload_n 0, 1) := by decide +kernel
theorem dX10_paid_79 : decode cX10_paid 79 = .ok (.getfield 55, 3) := by decide +kernel
theorem dX10_paid_82 : decode cX10_paid 82 = .ok (.iconst 1, 1) := by decide +kernel
theorem dX10_paid_83 : decode cX10_paid 83 = .ok (.iaload, 1) := by decide +kernel
theorem dX10_paid_84 : decode cX10_paid 84 = .ok (.imul, 1) := by decide +kernel
theorem dX10_paid_85 : decode cX10_paid 85 = .ok (.istore 5, 2) := by decide +kernel
theorem dX10_paid_87 : decode cX10_paid 87 = .ok (.ldc2_w 343, 3) := by decide +kernel
theorem dX10_paid_90 : decode cX10_paid 90 = .ok (.iload 4, 2) := by decide +kernel
theorem dX10_paid_92 : decode cX10_paid 92 = .ok (.i2l, 1) := by decide +kernel
theorem dX10_paid_93 : decode cX10_paid 93 = .ok (.aload_n 0, 1) := by decide +kernel
theorem dX10_paid_94 : decode cX10_paid 94 = .ok (.getfield 55, 3) := by decide +kernel
theorem dX10_paid_97 : decode cX10_paid 97 = .ok (.iconst 2, 1) := by decide +kernel
theorem dX10_paid_98 : decode cX10_paid 98 = .ok (.iaload, 1) := by decide +kernel
theorem dX10_paid_99 : decode cX10_paid 99 = .ok (.i2l, 1) := by decide +kernel
theorem dX10_paid_100 : decode cX10_paid 100 = .ok (.aload_n 0, 1) := by decide +kernel
theorem dX10_paid_101 : decode cX10_paid 101 = .ok (.getfield 55, 3) := by decide +kernel
theorem dX10_paid_104 : decode cX10_paid 104 = .ok (.iconst 1, 1) := by decide +kernel
theorem dX10_paid_105 : decode cX10_paid 105 = .ok (.iaload, 1) := by decide +kernel
theorem dX10_paid_106 : decode cX10_paid 106 = .ok (.i2l, 1) := by decide +kernel
theorem dX10_paid_107 : decode cX10_paid 107 = .ok (.aload_n 0, 1) := by decide +kernel
theorem dX10_paid_108 : decode cX10_paid 108 = .ok (.iload_n 3, 1) := by decide +kernel
theorem dX10_paid_109 : decode cX10_paid 109 = .ok (.invokevirtual 363, 3) := by decide +kernel
theorem dX10_paid_112 : decode cX10_paid 112 = .ok (.i2l, 1) := by decide +kernel
theorem dX10_paid_113 : decode cX10_paid 113 = .ok (.lmul, 1) := by decide +kernel
theorem dX10_paid_114 : decode cX10_paid 114 = .ok (.ladd, 1) := by decide +kernel
theorem dX10_paid_115 : decode cX10_paid 115 = .ok (.lmul, 1) := by decide +kernel
theorem dX10_paid_116 : decode cX10_paid 116 = .ok (.aload_n 0, 1) := by decide +kernel
theorem dX10_paid_117 : decode cX10_paid 117 = .ok (.iload_n 3, 1) := by decide +kernel
theorem dX10_paid_118 : decode cX10_paid 118 = .ok (.aload_n 0, 1) := by decide +kernel
theorem dX10_paid_119 : decode cX10_paid 119 = .ok (.iload_n 2, 1) := by decide +kernel
theorem dX10_paid_120 : decode cX10_paid 120 = .ok (.iload_n 3, 1) := by decide +kernel
theorem dX10_paid_121 : decode cX10_paid 121 = .ok (.aload_n 0, 1) := by decide +kernel
theorem dX10_paid_122 : decode cX10_paid 122 = .ok (.getfield 65, 3) := by decide +kernel
theorem dX10_paid_125 : decode cX10_paid 125 = .ok (.iload_n 2, 1) := by decide +kernel
theorem dX10_paid_126 : decode cX10_paid 126 = .ok (.iaload, 1) := by decide +kernel
theorem dX10_paid_127 : decode cX10_paid 127 = .ok (.invokevirtual 353, 3) := by decide +kernel
theorem dX10_paid_130 : decode cX10_paid 130 = .ok (.iload 5, 2) := by decide +kernel
theorem dX10_paid_132 : decode cX10_paid 132 = .ok (.invokevirtual 366, 3) := by decide +kernel
theorem dX10_paid_135 : decode cX10_paid 135 = .ok (.ladd, 1) := by decide +kernel
theorem dX10_paid_136 : decode cX10_paid 136 = .ok (.lmul, 1) := by decide +kernel
theorem dX10_paid_137 : decode cX10_paid 137 = .ok (.lreturn, 1) := by decide +kernel
theorem dX10_paid_52 : decode cX10_paid 52 = .ok (.iload 4, 2) := by decide +kernel
theorem dX10_paid_54 : decode cX10_paid 54 = .ok (.aload_n 0, 1) := by decide +kernel
theorem dX10_paid_55 : decode cX10_paid 55 = .ok (.getfield 16, 3) := by decide +kernel
theorem dX10_paid_58 : decode cX10_paid 58 = .ok (.bipush 60, 2) := by decide +kernel
theorem dX10_paid_60 : decode cX10_paid 60 = .ok (.iload_n 1, 1) := by decide +kernel
theorem dX10_paid_61 : decode cX10_paid 61 = .ok (.imul, 1) := by decide +kernel
theorem dX10_paid_62 : decode cX10_paid 62 = .ok (.iload 5, 2) := by decide +kernel
theorem dX10_paid_64 : decode cX10_paid 64 = .ok (.iadd, 1) := by decide +kernel
theorem dX10_paid_65 : decode cX10_paid 65 = .ok (.laload, 1) := by decide +kernel
theorem dX10_paid_66 : decode cX10_paid 66 = .ok (.l2i, 1) := by decide +kernel
theorem dX10_paid_67 : decode cX10_paid 67 = .ok (.iadd, 1) := by decide +kernel
theorem dX10_paid_68 : decode cX10_paid 68 = .ok (.istore 4, 2) := by decide +kernel
theorem dX10_paid_70 : decode cX10_paid 70 = .ok (.iinc 5 1, 3) := by decide +kernel
theorem dX10_paid_73 : decode cX10_paid 73 = .ok (.goto (-32), 3) := by decide +kernel
theorem dX10_paid_31 : decode cX10_paid 31 = .ok (.ldc2_w 381, 3) := by decide +kernel
theorem dX10_paid_34 : decode cX10_paid 34 = .ok (.lreturn, 1) := by decide +kernel
theorem dX10_years_0 : decode cX10_years 0 = .ok (.aload_n 0, 1) := by decide +kernel
theorem dX10_years_1 : decode cX10_years 1 = .ok (.iconst 0, 1) := by decide +kernel
theorem dX10_years_2 : decode cX10_years 2 = .ok (.putfield 111, 3) := by decide +kernel
theorem dX10_years_5 : decode cX10_years 5 = .ok (.iload_n 1, 1) := by decide +kernel
theorem dX10_years_6 : decode cX10_years 6 = .ok (.invokestatic 492, 3) := by decide +kernel
theorem dX10_years_9 : decode cX10_years 9 = .ok (.ifCond .eq 40, 3) := by decide +kernel
theorem dX10_years_12 : decode cX10_years 12 = .ok (.iload_n 2, 1) := by decide +kernel
theorem dX10_years_13 : decode cX10_years 13 = .ok (.i2l, 1) := by decide +kernel
theorem dX10_years_14 : decode cX10_years 14 = .ok (.lconst 1, 1) := by decide +kernel
theorem dX10_years_15 : decode cX10_years 15 = .ok (.ldc2_w 282, 3) := by decide +kernel
theorem dX10_years_18 : decode cX10_years 18 = .ok (.invokestatic 116, 3) := by decide +kernel
theorem dX10_years_21 : decode cX10_years 21 = .ok (.ifCond .eq 28, 3) := by decide +kernel
theorem dX10_years_24 : decode cX10_years 24 = .ok (.aload_n 0, 1) := by decide +kernel
theorem dX10_years_25 : decode cX10_years 25 = .ok (.iload_n 3, 1) := by decide +kernel
theorem dX10_years_26 : decode cX10_years 26 = .ok (.iload 4, 2) := by decide +kernel
theorem dX10_years_28 : decode cX10_years 28 = .ok (.iload 5, 2) := by decide +kernel
theorem dX10_years_30 : decode cX10_years 30 = .ok (.invokevirtual 375, 3) := by decide +kernel
theorem dX10_years_33 : decode cX10_years 33 = .ok (.ifCond .eq 16, 3) := by decide +kernel
theorem dX10_years_36 : decode cX10_years 36 = .ok (.iload 6, 2) := by decide +kernel
theorem dX10_years_38 : decode cX10_years 38 = .ok (.i2l, 1) := by decide +kernel
theorem dX10_years_39 : decode cX10_years 39 = .ok (.lconst 0, 1) := by decide +kernel
theorem dX10_years_40 : decode cX10_years 40 = .ok (.ldc2_w 114, 3) := by decide +kernel
theorem dX10_years_43 : decode cX10_years 43 = .ok (.invokestatic 116, 3) := by decide +kernel
theorem dX10_years_46 : decode cX10_years 46 = .ok (.ifCond .ne 6, 3) := by decide +kernel
theorem dX10_years_52 : decode cX10_years 52 = .ok (.iconst 0, 1) := by decide +kernel
theorem dX10_years_53 : decode cX10_years 53 = .ok (.istore 7, 2) := by decide +kernel
theorem dX10_years_55 : decode cX10_years 55 = .ok (.iconst 0, 1) := by decide +kernel
theorem dX10_years_56 : decode cX10_years 56 = .ok (.istore 8, 2) := by decide +kernel
theorem dX10_years_58 : decode cX10_years 58 = .ok (.iload 8, 2) := by decide +kernel
theorem dX10_years_60 : decode cX10_years 60 = .ok (.iload_n 2, 1) := by decide +kernel
theorem dX10_years_61 : decode cX10_years 61 = .ok (.if_icmp .ge 114, 3) := by decide +kernel
theorem dX10_years_175 : decode cX10_years 175 = .ok (.iload 7, 2) := by decide +kernel
theorem dX10_years_177 : decode cX10_years 177 = .ok (.ireturn, 1) := by decide +kernel
theorem dX10_years_64 : decode cX10_years 64 = .ok (.aload_n 0, 1) := by decide +kernel
theorem dX10_years_65 : decode cX10_years 65 = .ok (.iload_n 1, 1) := by decide +kernel
theorem dX10_years_66 : decode cX10_years 66 = .ok (.i2l, 1) := by decide +kernel
theorem dX10_years_67 : decode cX10_years 67 = .ok (.iload 8, 2) := by decide +kernel
theorem dX10_years_69 : decode cX10_years 69 = .ok (.i2l, 1) := by decide +kernel
theorem dX10_years_70 : decode cX10_years 70 = .ok (.ladd, 1) := by decide +kernel
theorem dX10_years_71 : decode cX10_years 71 = .ok (.invokevirtual 495, 3) := by decide +kernel
theorem dX10_years_74 : decode cX10_years 74 = .ok (.pop, 1) := by decide +kernel
theorem dX10_years_75 : decode cX10_years 75 = .ok (.aload_n 0, 1) := by decide +kernel
theorem dX10_years_76 : decode cX10_years 76 = .ok (.iload_n 3, 1) := by decide +kernel
theorem dX10_years_77 : decode cX10_years 77 = .ok (.iload 4, 2) := by decide +kernel
theorem dX10_years_79 : decode cX10_years 79 = .ok (.aload_n 0, 1) := by decide +kernel
theorem dX10_years_80 : decode cX10_years 80 = .ok (.getfield 108, 3) := by decide +kernel
theorem dX10_years_83 : decode cX10_years 83 = .ok (.iload_n 3, 1) := by decide +kernel
theorem dX10_years_84 : decode cX10_years 84 = .ok (.iaload, 1) := by decide +kernel
theorem dX10_years_85 : decode cX10_years 85 = .ok (.invokevirtual 353, 3) := by decide +kernel
theorem dX10_years_88 : decode cX10_years 88 = .ok (.istore 9, 2) := by decide +kernel
theorem dX10_years_90 : decode cX10_years 90 = .ok (.iload 9, 2) := by decide +kernel
theorem dX10_years_92 : decode cX10_years 92 = .ok (.iload 5, 2) := by decide +kernel
theorem dX10_years_94 : decode cX10_years 94 = .ok (.invokestatic 504, 3) := by decide +kernel
theorem dX10_years_97 : decode cX10_years 97 = .ok (.istore 10, 2) := by decide +kernel
theorem dX10_years_99 : decode cX10_years 99 = .ok (.iload 6, 2) := by decide +kernel
theorem dX10_years_101 : decode cX10_years 101 = .ok (.iconst 2, 1) := by decide +kernel
theorem dX10_years_102 : decode cX10_years 102 = .ok (.if_icmp .ne 22, 3) := by decide +kernel
theorem dX10_years_124 : decode cX10_years 124 = .ok (.iload 7, 2) := by decide +kernel
theorem dX10_years_126 : decode cX10_years 126 = .ok (.iload 6, 2) := by decide +kernel
theorem dX10_years_128 : decode cX10_years 128 = .ok (.ifCond .ne 20, 3) := by decide +kernel
theorem dX10_years_148 : decode cX10_years 148 = .ok (.iload 6, 2) := by decide +kernel
theorem dX10_years_150 : decode cX10_years 150 = .ok (.iconst 1, 1) := by decide +kernel
theorem dX10_years_151 : decode cX10_years 151 = .ok (.if_icmp .ne 8, 3) := by decide +kernel
theorem dX10_years_159 : decode cX10_years 159 = .ok (.iload 5, 2) := by decide +kernel
theorem dX10_years_161 : decode cX10_years 161 = .ok (.iload 9, 2) := by decide +kernel
theorem dX10_years_163 : decode cX10_years 163 = .ok (.invokestatic 504, 3) := by decide +kernel
theorem dX10_years_166 : decode cX10_years 166 = .ok (.iadd, 1) := by decide +kernel
theorem dX10_years_167 : decode cX10_years 167 = .ok (.istore 7, 2) := by decide +kernel
theorem dX10_years_169 : decode cX10_years 169 = .ok (.iinc 8 1, 3) := by decide +kernel
theorem dX10_years_172 : decode cX10_years 172 = .ok (.goto (-114), 3) := by decide +kernel
theorem dX10_years_154 : decode cX10_years 154 = .ok (.iload 10, 2) := by decide +kernel
theorem dX10_years_156 : decode cX10_years 156 = .ok (.goto 10, 3) := by decide +kernel
theorem dX10_years_131 : decode cX10_years 131 = .ok (.aload_n 0, 1) := by decide +kernel
theorem dX10_years_132 : decode cX10_years 132 = .ok (.getfield 108, 3) := by decide +kernel
theorem dX10_years_135 : decode cX10_years 135 = .ok (.iload_n 3, 1) := by decide +kernel
theorem dX10_years_136 : decode cX10_years 136 = .ok (.iaload, 1) := by decide +kernel
theorem dX10_years_137 : decode cX10_years 137 = .ok (.ifCond .eq 7, 3) := by decide +kernel
theorem dX10_years_144 : decode cX10_years 144 = .ok (.iconst 0, 1) := by decide +kernel
theorem dX10_years_145 : decode cX10_years 145 = .ok (.goto 21, 3) := by decide +kernel
theorem dX10_years_140 : decode cX10_years 140 = .ok (.iconst 1, 1) := by decide +kernel
theorem dX10_years_141 : decode cX10_years 141 = .ok (.goto 25, 3) := by decide +kernel
theorem dX10_years_105 : decode cX10_years 105 = .ok (.iload 10, 2) := by decide +kernel
theorem dX10_years_107 : decode cX10_years 107 = .ok (.iload 7, 2) := by decide +kernel
theorem dX10_years_109 : decode cX10_years 109 = .ok (.if_icmp .le 8, 3) := by decide +kernel
theorem dX10_years_117 : decode cX10_years 117 = .ok (.iload 7, 2) := by decide +kernel
theorem dX10_years_119 : decode cX10_years 119 = .ok (.istore 7, 2) := by decide +kernel
theorem dX10_years_121 : decode cX10_years 121 = .ok (.goto 48, 3) := by decide +kernel
theorem dX10_years_112 : decode cX10_years 112 = .ok (.iload 10, 2) := by decide +kernel
theorem dX10_years_114 : decode cX10_years 114 = .ok (.goto 5, 3) := by decide +kernel
theorem dX10_years_49 : decode cX10_years 49 = .ok (.bipush (-2), 2) := by decide +kernel
theorem dX10_years_51 : decode cX10_years 51 = .ok (.ireturn, 1) := by decide +kernel
theorem dX10_count_0 : decode cX10_count 0 = .ok (.aload_n 0, 1) := by decide +kernel
theorem dX10_count_1 : decode cX10_count 1 = .ok (.iconst 0, 1) := by decide +kernel
theorem dX10_count_2 : decode cX10_count 2 = .ok (.putfield 111, 3) := by decide +kernel
theorem dX10_count_5 : decode cX10_count 5 = .ok (.iconst 0, 1) := by decide +kernel
theorem dX10_count_6 : decode cX10_count 6 = .ok (.istore_n 2, 1) := by decide +kernel
theorem dX10_count_7 : decode cX10_count 7 = .ok (.iload_n 1, 1) := by decide +kernel
theorem dX10_count_8 : decode cX10_count 8 = .ok (.tableswitch 126 0 7 #[48, 55, 62, 67, 74, 81, 86, 93], 48) := by decide +kernel
theorem dX10_count_134 : decode cX10_count 134 = .ok (.iconst (-1), 1) := by decide +kernel
theorem dX10_count_135 : decode cX10_count 135 = .ok (.ireturn, 1) := by decide +kernel
theorem dX10_count_56 : decode cX10_count 56 = .ok (.aload_n 0, 1) := by decide +kernel
theorem dX10_count_57 : decode cX10_count 57 = .ok (.getfield 43, 3) := by decide +kernel
theorem dX10_count_60 : decode cX10_count 60 = .ok (.iconst 0, 1) := by decide +kernel
theorem dX10_count_61 : decode cX10_count 61 = .ok (.iaload, 1) := by decide +kernel
theorem dX10_count_62 : decode cX10_count 62 = .ok (.ireturn, 1) := by decide +kernel
theorem dX10_count_63 : decode cX10_count 63 = .ok (.aload_n 0, 1) := by decide +kernel
theorem dX10_count_64 : decode cX10_count 64 = .ok (.getfield 37, 3) := by decide +kernel
theorem dX10_count_67 : decode cX10_count 67 = .ok (.iconst 0, 1) := by decide +kernel
theorem dX10_count_68 : decode cX10_count 68 = .ok (.iaload, 1) := by decide +kernel
theorem dX10_count_69 : decode cX10_count 69 = .ok (.ireturn, 1) := by decide +kernel
theorem dX10_count_70 : decode cX10_count 70 = .ok (.aload_n 0, 1) := by decide +kernel
theorem dX10_count_71 : decode cX10_count 71 = .ok (.invokevirtual 278, 3) := by decide +kernel
theorem dX10_count_74 : decode cX10_count 74 = .ok (.ireturn, 1) := by decide +kernel
theorem dX10_count_75 : decode cX10_count 75 = .ok (.aload_n 0, 1) := by decide +kernel
theorem dX10_count_76 : decode cX10_count 76 = .ok (.getfield 31, 3) := by decide +kernel
theorem dX10_count_79 : decode cX10_count 79 = .ok (.iconst 0, 1) := by decide +kernel
theorem dX10_count_80 : decode cX10_count 80 = .ok (.iaload, 1) := by decide +kernel
theorem dX10_count_81 : decode cX10_count 81 = .ok (.ireturn, 1) := by decide +kernel
theorem dX10_count_82 : decode cX10_count 82 = .ok (.aload_n 0, 1) := by decide +kernel
theorem dX10_count_83 : decode cX10_count 83 = .ok (.getfield 49, 3) := by decide +kernel
theorem dX10_count_86 : decode cX10_count 86 = .ok (.iconst 0, 1) := by decide +kernel
theorem dX10_count_87 : decode cX10_count 87 = .ok (.iaload, 1) := by decide +kernel
theorem dX10_count_88 : decode cX10_count 88 = .ok (.ireturn, 1) := by decide +kernel
theorem dX10_count_89 : decode cX10_count 89 = .ok (.aload_n 0, 1) := by decide +kernel
theorem dX10_count_90 : decode cX10_count 90 = .ok (.getfield 128, 3) := by decide +kernel
theorem dX10_count_93 : decode cX10_count 93 = .ok (.ireturn, 1) := by decide +kernel
theorem dX10_count_94 : decode cX10_count 94 = .ok (.aload_n 0, 1) := by decide +kernel
theorem dX10_count_95 : decode cX10_count 95 = .ok (.getfield 62, 3) := by decide +kernel
theorem dX10_count_98 : decode cX10_count 98 = .ok (.iconst 0, 1) := by decide +kernel
theorem dX10_count_99 : decode cX10_count 99 = .ok (.iaload, 1) := by decide +kernel
theorem dX10_count_100 : decode cX10_count 100 = .ok (.ireturn, 1) := by decide +kernel
theorem dX10_count_101 : decode cX10_count 101 = .ok (.iconst 0, 1) := by decide +kernel
theorem dX10_count_102 : decode cX10_count 102 = .ok (.istore_n 3, 1) := by decide +kernel
theorem dX10_count_103 : decode cX10_count 103 = .ok (.iload_n 3, 1) := by decide +kernel
theorem dX10_count_104 : decode cX10_count 104 = .ok (.iconst 4, 1) := by decide +kernel
theorem dX10_count_105 : decode cX10_count 105 = .ok (.if_icmp .ge 27, 3) := by decide +kernel
theorem dX10_count_132 : decode cX10_count 132 = .ok (.iload_n 2, 1) := by decide +kernel
theorem dX10_count_133 : decode cX10_count 133 = .ok (.ireturn, 1) := by decide +kernel
theorem dX10_count_108 : decode cX10_count 108 = .ok (.iload_n 2, 1) := by decide +kernel
theorem dX10_count_109 : decode cX10_count 109 = .ok (.aload_n 0, 1) := by decide +kernel
theorem dX10_count_110 : decode cX10_count 110 = .ok (.getfield 7, 3) := by decide +kernel
theorem dX10_count_113 : decode cX10_count 113 = .ok (.iload_n 3, 1) := by decide +kernel
theorem dX10_count_114 : decode cX10_count 114 = .ok (.iaload, 1) := by decide +kernel
theorem dX10_count_115 : decode cX10_count 115 = .ok (.iconst (-1), 1) := by decide +kernel
theorem dX10_count_116 : decode cX10_count 116 = .ok (.if_icmp .ne 7, 3) := by decide +kernel
theorem dX10_count_123 : decode cX10_count 123 = .ok (.iconst 1, 1) := by decide +kernel
theorem dX10_count_124 : decode cX10_count 124 = .ok (.iadd, 1) := by decide +kernel
theorem dX10_count_125 : decode cX10_count 125 = .ok (.istore_n 2, 1) := by decide +kernel
theorem dX10_count_126 : decode cX10_count 126 = .ok (.iinc 3 1, 3) := by decide +kernel
theorem dX10_count_129 : decode cX10_count 129 = .ok (.goto (-26), 3) := by decide +kernel
theorem dX10_count_119 : decode cX10_count 119 = .ok (.iconst 0, 1) := by decide +kernel
theorem dX10_count_120 : decode cX10_count 120 = .ok (.goto 4, 3) := by decide +kernel
theorem dX10_row_0 : decode cX10_row 0 = .ok (.aload_n 0, 1) := by decide +kernel
theorem dX10_row_1 : decode cX10_row 1 = .ok (.iconst 0, 1) := by decide +kernel
theorem dX10_row_2 : decode cX10_row 2 = .ok (.putfield 111, 3) := by decide +kernel
theorem dX10_row_5 : decode cX10_row 5 = .ok (.iload_n 1, 1) := by decide +kernel
theorem dX10_row_6 : decode cX10_row 6 = .ok (.invokestatic 120, 3) := by decide +kernel
theorem dX10_row_9 : decode cX10_row 9 = .ok (.ifCond .eq 21, 3) := by decide +kernel
theorem dX10_row_12 : decode cX10_row 12 = .ok (.iload_n 2, 1) := by decide +kernel
theorem dX10_row_13 : decode cX10_row 13 = .ok (.i2l, 1) := by decide +kernel
theorem dX10_row_14 : decode cX10_row 14 = .ok (.lconst 0, 1) := by decide +kernel
theorem dX10_row_15 : decode cX10_row 15 = .ok (.ldc2_w 114, 3) := by decide +kernel
theorem dX10_row_18 : decode cX10_row 18 = .ok (.invokestatic 116, 3) := by decide +kernel
theorem dX10_row_21 : decode cX10_row 21 = .ok (.ifCond .eq 9, 3) := by decide +kernel
theorem dX10_row_24 : decode cX10_row 24 = .ok (.iload_n 3, 1) := by decide +kernel
theorem dX10_row_25 : decode cX10_row 25 = .ok (.bipush 60, 2) := by decide +kernel
theorem dX10_row_27 : decode cX10_row 27 = .ok (.if_icmp .le 6, 3) := by decide +kernel
theorem dX10_row_33 : decode cX10_row 33 = .ok (.iload_n 3, 1) := by decide +kernel
theorem dX10_row_34 : decode cX10_row 34 = .ok (.ifCond .ge 6, 3) := by decide +kernel
theorem dX10_row_40 : decode cX10_row 40 = .ok (.aload_n 0, 1) := by decide +kernel
theorem dX10_row_41 : decode cX10_row 41 = .ok (.getfield 7, 3) := by decide +kernel
theorem dX10_row_44 : decode cX10_row 44 = .ok (.iload_n 1, 1) := by decide +kernel
theorem dX10_row_45 : decode cX10_row 45 = .ok (.iload_n 2, 1) := by decide +kernel
theorem dX10_row_46 : decode cX10_row 46 = .ok (.iastore, 1) := by decide +kernel
theorem dX10_row_47 : decode cX10_row 47 = .ok (.aload_n 0, 1) := by decide +kernel
theorem dX10_row_48 : decode cX10_row 48 = .ok (.getfield 13, 3) := by decide +kernel
theorem dX10_row_51 : decode cX10_row 51 = .ok (.iload_n 1, 1) := by decide +kernel
theorem dX10_row_52 : decode cX10_row 52 = .ok (.iload_n 3, 1) := by decide +kernel
theorem dX10_row_53 : decode cX10_row 53 = .ok (.iastore, 1) := by decide +kernel
theorem dX10_row_54 : decode cX10_row 54 = .ok (.iconst 0, 1) := by decide +kernel
theorem dX10_row_55 : decode cX10_row 55 = .ok (.istore 4, 2) := by decide +kernel
theorem dX10_row_57 : decode cX10_row 57 = .ok (.iload 4, 2) := by decide +kernel
theorem dX10_row_59 : decode cX10_row 59 = .ok (.iload_n 3, 1) := by decide +kernel
theorem dX10_row_60 : decode cX10_row 60 = .ok (.if_icmp .ge 22, 3) := by decide +kernel
theorem dX10_row_82 : decode cX10_row 82 = .ok (.iconst 0, 1) := by decide +kernel
theorem dX10_row_83 : decode cX10_row 83 = .ok (.ireturn, 1) := by decide +kernel
theorem dX10_row_63 : decode cX10_row 63 = .ok (.aload_n 0, 1) := by decide +kernel
theorem dX10_row_64 : decode cX10_row 64 = .ok (.getfield 16, 3) := by decide +kernel
theorem dX10_row_67 : decode cX10_row 67 = .ok (.bipush 60, 2) := by decide +kernel
theorem dX10_row_69 : decode cX10_row 69 = .ok (.iload_n 1, 1) := by decide +kernel
theorem dX10_row_70 : decode cX10_row 70 = .ok (.imul, 1) := by decide +kernel
theorem dX10_row_71 : decode cX10_row 71 = .ok (.iload 4, 2) := by decide +kernel
theorem dX10_row_73 : decode cX10_row 73 = .ok (.iadd, 1) := by decide +kernel
theorem dX10_row_74 : decode cX10_row 74 = .ok (.lconst 0, 1) := by decide +kernel
theorem dX10_row_75 : decode cX10_row 75 = .ok (.lastore, 1) := by decide +kernel
theorem dX10_row_76 : decode cX10_row 76 = .ok (.iinc 4 1, 3) := by decide +kernel
theorem dX10_row_79 : decode cX10_row 79 = .ok (.goto (-22), 3) := by decide +kernel
theorem dX10_row_37 : decode cX10_row 37 = .ok (.bipush (-3), 2) := by decide +kernel
theorem dX10_row_39 : decode cX10_row 39 = .ok (.ireturn, 1) := by decide +kernel
theorem dX10_row_30 : decode cX10_row 30 = .ok (.bipush (-2), 2) := by decide +kernel
theorem dX10_row_32 : decode cX10_row 32 = .ok (.ireturn, 1) := by decide +kernel
theorem dX10_write_0 : decode cX10_write 0 = .ok (.aload_n 0, 1) := by decide +kernel
theorem dX10_write_1 : decode cX10_write 1 = .ok (.iconst 0, 1) := by decide +kernel
theorem dX10_write_2 : decode cX10_write 2 = .ok (.putfield 111, 3) := by decide +kernel
theorem dX10_write_5 : decode cX10_write 5 = .ok (.iload_n 1, 1) := by decide +kernel
theorem dX10_write_6 : decode cX10_write 6 = .ok (.invokestatic 120, 3) := by decide +kernel
theorem dX10_write_9 : decode cX10_write 9 = .ok (.ifCond .ne 6, 3) := by decide +kernel
theorem dX10_write_15 : decode cX10_write 15 = .ok (.aload_n 0, 1) := by decide +kernel
theorem dX10_write_16 : decode cX10_write 16 = .ok (.getfield 7, 3) := by decide +kernel
theorem dX10_write_19 : decode cX10_write 19 = .ok (.iload_n 1, 1) := by decide +kernel
theorem dX10_write_20 : decode cX10_write 20 = .ok (.iaload, 1) := by decide +kernel
theorem dX10_write_21 : decode cX10_write 21 = .ok (.iconst (-1), 1) := by decide +kernel
theorem dX10_write_22 : decode cX10_write 22 = .ok (.if_icmp .ne 6, 3) := by decide +kernel
theorem dX10_write_28 : decode cX10_write 28 = .ok (.iload_n 2, 1) := by decide +kernel
theorem dX10_write_29 : decode cX10_write 29 = .ok (.i2l, 1) := by decide +kernel
theorem dX10_write_30 : decode cX10_write 30 = .ok (.lconst 0, 1) := by decide +kernel
theorem dX10_write_31 : decode cX10_write 31 = .ok (.aload_n 0, 1) := by decide +kernel
theorem dX10_write_32 : decode cX10_write 32 = .ok (.getfield 13, 3) := by decide +kernel
theorem dX10_write_35 : decode cX10_write 35 = .ok (.iload_n 1, 1) := by decide +kernel
theorem dX10_write_36 : decode cX10_write 36 = .ok (.iaload, 1) := by decide +kernel
theorem dX10_write_37 : decode cX10_write 37 = .ok (.iconst 1, 1) := by decide +kernel
theorem dX10_write_38 : decode cX10_write 38 = .ok (.isub, 1) := by decide +kernel
theorem dX10_write_39 : decode cX10_write 39 = .ok (.i2l, 1) := by decide +kernel
theorem dX10_write_40 : decode cX10_write 40 = .ok (.invokestatic 116, 3) := by decide +kernel
theorem dX10_write_43 : decode cX10_write 43 = .ok (.ifCond .ne 6, 3) := by decide +kernel
theorem dX10_write_49 : decode cX10_write 49 = .ok (.aload_n 0, 1) := by decide +kernel
theorem dX10_write_50 : decode cX10_write 50 = .ok (.getfield 16, 3) := by decide +kernel
theorem dX10_write_53 : decode cX10_write 53 = .ok (.bipush 60, 2) := by decide +kernel
theorem dX10_write_55 : decode cX10_write 55 = .ok (.iload_n 1, 1) := by decide +kernel
theorem dX10_write_56 : decode cX10_write 56 = .ok (.imul, 1) := by decide +kernel
theorem dX10_write_57 : decode cX10_write 57 = .ok (.iload_n 2, 1) := by decide +kernel
theorem dX10_write_58 : decode cX10_write 58 = .ok (.iadd, 1) := by decide +kernel
theorem dX10_write_59 : decode cX10_write 59 = .ok (.lload_n 3, 1) := by decide +kernel
theorem dX10_write_60 : decode cX10_write 60 = .ok (.aload_n 0, 1) := by decide +kernel
theorem dX10_write_61 : decode cX10_write 61 = .ok (.getfield 7, 3) := by decide +kernel
theorem dX10_write_64 : decode cX10_write 64 = .ok (.iload_n 1, 1) := by decide +kernel
theorem dX10_write_65 : decode cX10_write 65 = .ok (.iaload, 1) := by decide +kernel
theorem dX10_write_66 : decode cX10_write 66 = .ok (.invokestatic 124, 3) := by decide +kernel
theorem dX10_write_69 : decode cX10_write 69 = .ok (.lastore, 1) := by decide +kernel
theorem dX10_write_70 : decode cX10_write 70 = .ok (.iconst 0, 1) := by decide +kernel
theorem dX10_write_71 : decode cX10_write 71 = .ok (.ireturn, 1) := by decide +kernel
theorem dX10_write_46 : decode cX10_write 46 = .ok (.bipush (-7), 2) := by decide +kernel
theorem dX10_write_48 : decode cX10_write 48 = .ok (.ireturn, 1) := by decide +kernel
theorem dX10_write_25 : decode cX10_write 25 = .ok (.bipush (-6), 2) := by decide +kernel
theorem dX10_write_27 : decode cX10_write 27 = .ok (.ireturn, 1) := by decide +kernel
theorem dX10_write_12 : decode cX10_write 12 = .ok (.bipush (-2), 2) := by decide +kernel
theorem dX10_write_14 : decode cX10_write 14 = .ok (.ireturn, 1) := by decide +kernel
theorem dX10_paste_0 : decode cX10_paste 0 = .ok (.aload_n 0, 1) := by decide +kernel
theorem dX10_paste_1 : decode cX10_paste 1 = .ok (.iconst 0, 1) := by decide +kernel
theorem dX10_paste_2 : decode cX10_paste 2 = .ok (.putfield 111, 3) := by decide +kernel
theorem dX10_paste_5 : decode cX10_paste 5 = .ok (.iload_n 1, 1) := by decide +kernel
theorem dX10_paste_6 : decode cX10_paste 6 = .ok (.invokestatic 120, 3) := by decide +kernel
theorem dX10_paste_9 : decode cX10_paste 9 = .ok (.ifCond .eq 10, 3) := by decide +kernel
theorem dX10_paste_12 : decode cX10_paste 12 = .ok (.iload_n 3, 1) := by decide +kernel
theorem dX10_paste_13 : decode cX10_paste 13 = .ok (.invokestatic 120, 3) := by decide +kernel
theorem dX10_paste_16 : decode cX10_paste 16 = .ok (.ifCond .ne 6, 3) := by decide +kernel
theorem dX10_paste_22 : decode cX10_paste 22 = .ok (.aload_n 0, 1) := by decide +kernel
theorem dX10_paste_23 : decode cX10_paste 23 = .ok (.getfield 7, 3) := by decide +kernel
theorem dX10_paste_26 : decode cX10_paste 26 = .ok (.iload_n 1, 1) := by decide +kernel
theorem dX10_paste_27 : decode cX10_paste 27 = .ok (.iaload, 1) := by decide +kernel
theorem dX10_paste_28 : decode cX10_paste 28 = .ok (.iconst (-1), 1) := by decide +kernel
theorem dX10_paste_29 : decode cX10_paste 29 = .ok (.if_icmp .eq 13, 3) := by decide +kernel
theorem dX10_paste_42 : decode cX10_paste 42 = .ok (.bipush (-6), 2) := by decide +kernel
theorem dX10_paste_44 : decode cX10_paste 44 = .ok (.ireturn, 1) := by decide +kernel
theorem dX10_paste_32 : decode cX10_paste 32 = .ok (.aload_n 0, 1) := by decide +kernel
theorem dX10_paste_33 : decode cX10_paste 33 = .ok (.getfield 7, 3) := by decide +kernel
theorem dX10_paste_36 : decode cX10_paste 36 = .ok (.iload_n 3, 1) := by decide +kernel
theorem dX10_paste_37 : decode cX10_paste 37 = .ok (.iaload, 1) := by decide +kernel
theorem dX10_paste_38 : decode cX10_paste 38 = .ok (.iconst (-1), 1) := by decide +kernel
theorem dX10_paste_39 : decode cX10_paste 39 = .ok (.if_icmp .ne 6, 3) := by decide +kernel
theorem dX10_paste_45 : decode cX10_paste 45 = .ok (.aload_n 0, 1) := by decide +kernel
theorem dX10_paste_46 : decode cX10_paste 46 = .ok (.getfield 7, 3) := by decide +kernel
theorem dX10_paste_49 : decode cX10_paste 49 = .ok (.iload_n 1, 1) := by decide +kernel
theorem dX10_paste_50 : decode cX10_paste 50 = .ok (.iaload, 1) := by decide +kernel
theorem dX10_paste_51 : decode cX10_paste 51 = .ok (.aload_n 0, 1) := by decide +kernel
theorem dX10_paste_52 : decode cX10_paste 52 = .ok (.getfield 7, 3) := by decide +kernel
theorem dX10_paste_55 : decode cX10_paste 55 = .ok (.iload_n 3, 1) := by decide +kernel
theorem dX10_paste_56 : decode cX10_paste 56 = .ok (.iaload, 1) := by decide +kernel
theorem dX10_paste_57 : decode cX10_paste 57 = .ok (.if_icmp .eq 6, 3) := by decide +kernel
theorem dX10_paste_63 : decode cX10_paste 63 = .ok (.iload_n 2, 1) := by decide +kernel
theorem dX10_paste_64 : decode cX10_paste 64 = .ok (.ifCond .lt 48, 3) := by decide +kernel
theorem dX10_paste_112 : decode cX10_paste 112 = .ok (.bipush (-7), 2) := by decide +kernel
theorem dX10_paste_114 : decode cX10_paste 114 = .ok (.ireturn, 1) := by decide +kernel
theorem dX10_paste_67 : decode cX10_paste 67 = .ok (.iload 4, 2) := by decide +kernel
theorem dX10_paste_69 : decode cX10_paste 69 = .ok (.ifCond .lt 43, 3) := by decide +kernel
theorem dX10_paste_72 : decode cX10_paste 72 = .ok (.iload 5, 2) := by decide +kernel
theorem dX10_paste_74 : decode cX10_paste 74 = .ok (.ifCond .lt 38, 3) := by decide +kernel
theorem dX10_paste_77 : decode cX10_paste 77 = .ok (.iload_n 2, 1) := by decide +kernel
theorem dX10_paste_78 : decode cX10_paste 78 = .ok (.i2l, 1) := by decide +kernel
theorem dX10_paste_79 : decode cX10_paste 79 = .ok (.iload 5, 2) := by decide +kernel
theorem dX10_paste_81 : decode cX10_paste 81 = .ok (.i2l, 1) := by decide +kernel
theorem dX10_paste_82 : decode cX10_paste 82 = .ok (.ladd, 1) := by decide +kernel
theorem dX10_paste_83 : decode cX10_paste 83 = .ok (.aload_n 0, 1) := by decide +kernel
theorem dX10_paste_84 : decode cX10_paste 84 = .ok (.getfield 13, 3) := by decide +kernel
theorem dX10_paste_87 : decode cX10_paste 87 = .ok (.iload_n 1, 1) := by decide +kernel
theorem dX10_paste_88 : decode cX10_paste 88 = .ok (.iaload, 1) := by decide +kernel
theorem dX10_paste_89 : decode cX10_paste 89 = .ok (.i2l, 1) := by decide +kernel
theorem dX10_paste_90 : decode cX10_paste 90 = .ok (.lcmp, 1) := by decide +kernel
theorem dX10_paste_91 : decode cX10_paste 91 = .ok (.ifCond .gt 21, 3) := by decide +kernel
theorem dX10_paste_94 : decode cX10_paste 94 = .ok (.iload 4, 2) := by decide +kernel
theorem dX10_paste_96 : decode cX10_paste 96 = .ok (.i2l, 1) := by decide +kernel
theorem dX10_paste_97 : decode cX10_paste 97 = .ok (.iload 5, 2) := by decide +kernel
theorem dX10_paste_99 : decode cX10_paste 99 = .ok (.i2l, 1) := by decide +kernel
theorem dX10_paste_100 : decode cX10_paste 100 = .ok (.ladd, 1) := by decide +kernel
theorem dX10_paste_101 : decode cX10_paste 101 = .ok (.aload_n 0, 1) := by decide +kernel
theorem dX10_paste_102 : decode cX10_paste 102 = .ok (.getfield 13, 3) := by decide +kernel
theorem dX10_paste_105 : decode cX10_paste 105 = .ok (.iload_n 3, 1) := by decide +kernel
theorem dX10_paste_106 : decode cX10_paste 106 = .ok (.iaload, 1) := by decide +kernel
theorem dX10_paste_107 : decode cX10_paste 107 = .ok (.i2l, 1) := by decide +kernel
theorem dX10_paste_108 : decode cX10_paste 108 = .ok (.lcmp, 1) := by decide +kernel
theorem dX10_paste_109 : decode cX10_paste 109 = .ok (.ifCond .le 6, 3) := by decide +kernel
theorem dX10_paste_115 : decode cX10_paste 115 = .ok (.iconst 0, 1) := by decide +kernel
theorem dX10_paste_116 : decode cX10_paste 116 = .ok (.istore 6, 2) := by decide +kernel
theorem dX10_paste_118 : decode cX10_paste 118 = .ok (.iload 6, 2) := by decide +kernel
theorem dX10_paste_120 : decode cX10_paste 120 = .ok (.iload 5, 2) := by decide +kernel
theorem dX10_paste_122 : decode cX10_paste 122 = .ok (.if_icmp .ge 30, 3) := by decide +kernel
theorem dX10_paste_152 : decode cX10_paste 152 = .ok (.iconst 0, 1) := by decide +kernel
theorem dX10_paste_153 : decode cX10_paste 153 = .ok (.istore 6, 2) := by decide +kernel
theorem dX10_paste_155 : decode cX10_paste 155 = .ok (.iload 6, 2) := by decide +kernel
theorem dX10_paste_157 : decode cX10_paste 157 = .ok (.iload 5, 2) := by decide +kernel
theorem dX10_paste_159 : decode cX10_paste 159 = .ok (.if_icmp .ge 31, 3) := by decide +kernel
theorem dX10_paste_190 : decode cX10_paste 190 = .ok (.iconst 0, 1) := by decide +kernel
theorem dX10_paste_191 : decode cX10_paste 191 = .ok (.ireturn, 1) := by decide +kernel
theorem dX10_paste_162 : decode cX10_paste 162 = .ok (.aload_n 0, 1) := by decide +kernel
theorem dX10_paste_163 : decode cX10_paste 163 = .ok (.getfield 16, 3) := by decide +kernel
theorem dX10_paste_166 : decode cX10_paste 166 = .ok (.bipush 60, 2) := by decide +kernel
theorem dX10_paste_168 : decode cX10_paste 168 = .ok (.iload_n 3, 1) := by decide +kernel
theorem dX10_paste_169 : decode cX10_paste 169 = .ok (.imul, 1) := by decide +kernel
theorem dX10_paste_170 : decode cX10_paste 170 = .ok (.iload 4, 2) := by decide +kernel
theorem dX10_paste_172 : decode cX10_paste 172 = .ok (.iadd, 1) := by decide +kernel
theorem dX10_paste_173 : decode cX10_paste 173 = .ok (.iload 6, 2) := by decide +kernel
theorem dX10_paste_175 : decode cX10_paste 175 = .ok (.iadd, 1) := by decide +kernel
theorem dX10_paste_176 : decode cX10_paste 176 = .ok (.aload_n 0, 1) := by decide +kernel
theorem dX10_paste_177 : decode cX10_paste 177 = .ok (.getfield 20, 3) := by decide +kernel
theorem dX10_paste_180 : decode cX10_paste 180 = .ok (.iload 6, 2) := by decide +kernel
theorem dX10_paste_182 : decode cX10_paste 182 = .ok (.laload, 1) := by decide +kernel
theorem dX10_paste_183 : decode cX10_paste 183 = .ok (.lastore, 1) := by decide +kernel
theorem dX10_paste_184 : decode cX10_paste 184 = .ok (.iinc 6 1, 3) := by decide +kernel
theorem dX10_paste_187 : decode cX10_paste 187 = .ok (.goto (-32), 3) := by decide +kernel
theorem dX10_paste_125 : decode cX10_paste 125 = .ok (.aload_n 0, 1) := by decide +kernel
theorem dX10_paste_126 : decode cX10_paste 126 = .ok (.getfield 20, 3) := by decide +kernel
theorem dX10_paste_129 : decode cX10_paste 129 = .ok (.iload 6, 2) := by decide +kernel
theorem dX10_paste_131 : decode cX10_paste 131 = .ok (.aload_n 0, 1) := by decide +kernel
theorem dX10_paste_132 : decode cX10_paste 132 = .ok (.getfield 16, 3) := by decide +kernel
theorem dX10_paste_135 : decode cX10_paste 135 = .ok (.bipush 60, 2) := by decide +kernel
theorem dX10_paste_137 : decode cX10_paste 137 = .ok (.iload_n 1, 1) := by decide +kernel
theorem dX10_paste_138 : decode cX10_paste 138 = .ok (.imul, 1) := by decide +kernel
theorem dX10_paste_139 : decode cX10_paste 139 = .ok (.iload_n 2, 1) := by decide +kernel
theorem dX10_paste_140 : decode cX10_paste 140 = .ok (.iadd, 1) := by decide +kernel
theorem dX10_paste_141 : decode cX10_paste 141 = .ok (.iload 6, 2) := by decide +kernel
theorem dX10_paste_143 : decode cX10_paste 143 = .ok (.iadd, 1) := by decide +kernel
theorem dX10_paste_144 : decode cX10_paste 144 = .ok (.laload, 1) := by decide +kernel
theorem dX10_paste_145 : decode cX10_paste 145 = .ok (.lastore, 1) := by decide +kernel
theorem dX10_paste_146 : decode cX10_paste 146 = .ok (.iinc 6 1, 3) := by decide +kernel
theorem dX10_paste_149 : decode cX10_paste 149 = .ok (.goto (-31), 3) := by decide +kernel
theorem dX10_paste_60 : decode cX10_paste 60 = .ok (.bipush (-8), 2) := by decide +kernel
theorem dX10_paste_62 : decode cX10_paste 62 = .ok (.ireturn, 1) := by decide +kernel
theorem dX10_paste_19 : decode cX10_paste 19 = .ok (.bipush (-2), 2) := by decide +kernel
theorem dX10_paste_21 : decode cX10_paste 21 = .ok (.ireturn, 1) := by decide +kernel
theorem dX10_fault_0 : decode cX10_fault 0 = .ok (.aload_n 0, 1) := by decide +kernel
theorem dX10_fault_1 : decode cX10_fault 1 = .ok (.iconst 0, 1) := by decide +kernel
theorem dX10_fault_2 : decode cX10_fault 2 = .ok (.putfield 111, 3) := by decide +kernel
theorem dX10_fault_5 : decode cX10_fault 5 = .ok (.iload_n 1, 1) := by decide +kernel
theorem dX10_fault_6 : decode cX10_fault 6 = .ok (.ifCond .ne 10, 3) := by decide +kernel
theorem dX10_fault_16 : decode cX10_fault 16 = .ok (.iload_n 1, 1) := by decide +kernel
theorem dX10_fault_17 : decode cX10_fault 17 = .ok (.iconst 1, 1) := by decide +kernel
theorem dX10_fault_18 : decode cX10_fault 18 = .ok (.if_icmp .ne 10, 3) := by decide +kernel
theorem dX10_fault_28 : decode cX10_fault 28 = .ok (.iconst (-1), 1) := by decide +kernel
theorem dX10_fault_29 : decode cX10_fault 29 = .ok (.ireturn, 1) := by decide +kernel
theorem dX10_fault_21 : decode cX10_fault 21 = .ok (.aload_n 0, 1) := by decide +kernel
theorem dX10_fault_22 : decode cX10_fault 22 = .ok (.getfield 27, 3) := by decide +kernel
theorem dX10_fault_25 : decode cX10_fault 25 = .ok (.goto 4, 3) := by decide +kernel
theorem dX10_fault_9 : decode cX10_fault 9 = .ok (.aload_n 0, 1) := by decide +kernel
theorem dX10_fault_10 : decode cX10_fault 10 = .ok (.getfield 190, 3) := by decide +kernel
theorem dX10_fault_13 : decode cX10_fault 13 = .ok (.goto 16, 3) := by decide +kernel
theorem dX10_end_0 : decode cX10_end 0 = .ok (.aload_n 0, 1) := by decide +kernel
theorem dX10_end_1 : decode cX10_end 1 = .ok (.iconst 0, 1) := by decide +kernel
theorem dX10_end_2 : decode cX10_end 2 = .ok (.putfield 111, 3) := by decide +kernel
theorem dX10_end_5 : decode cX10_end 5 = .ok (.iload_n 1, 1) := by decide +kernel
theorem dX10_end_6 : decode cX10_end 6 = .ok (.i2l, 1) := by decide +kernel
theorem dX10_end_7 : decode cX10_end 7 = .ok (.lconst 0, 1) := by decide +kernel
theorem dX10_end_8 : decode cX10_end 8 = .ok (.aload_n 0, 1) := by decide +kernel
theorem dX10_end_9 : decode cX10_end 9 = .ok (.getfield 128, 3) := by decide +kernel
theorem dX10_end_12 : decode cX10_end 12 = .ok (.i2l, 1) := by decide +kernel
theorem dX10_end_13 : decode cX10_end 13 = .ok (.invokestatic 116, 3) := by decide +kernel
theorem dX10_end_16 : decode cX10_end 16 = .ok (.ifCond .ne 5, 3) := by decide +kernel
theorem dX10_end_21 : decode cX10_end 21 = .ok (.aload_n 0, 1) := by decide +kernel
theorem dX10_end_22 : decode cX10_end 22 = .ok (.iload_n 1, 1) := by decide +kernel
theorem dX10_end_23 : decode cX10_end 23 = .ok (.putfield 128, 3) := by decide +kernel
theorem dX10_end_26 : decode cX10_end 26 = .ok (.iload_n 1, 1) := by decide +kernel
theorem dX10_end_27 : decode cX10_end 27 = .ok (.ireturn, 1) := by decide +kernel
theorem dX10_end_19 : decode cX10_end 19 = .ok (.iconst (-1), 1) := by decide +kernel
theorem dX10_end_20 : decode cX10_end 20 = .ok (.ireturn, 1) := by decide +kernel
theorem sV_X10_443 : SiteV RX10 443 yX10_askedBy cX10_askedBy 4 (some .int) 1 := ⟨ml_X10_443, im_X10_askedBy, se_X10_askedBy, ini_X10, co_X10_askedBy, by decide +kernel⟩
theorem sS_X10_120 : SiteS RX10 120 yX10_isSlot cX10_isSlot 1 (some .boolean) 1 := ⟨ml_X10_120, st_X10_isSlot, ini_X10, co_X10_isSlot, by decide +kernel⟩
theorem sV_X10_448 : SiteV RX10 448 yX10_isAsking cX10_isAsking 3 (some .boolean) 1 := ⟨ml_X10_448, im_X10_isAsking, se_X10_isAsking, ini_X10, co_X10_isAsking, by decide +kernel⟩
theorem sV_X10_451 : SiteV RX10 451 yX10_whyNot cX10_whyNot 5 (some .int) 4 := ⟨ml_X10_451, im_X10_whyNot, se_X10_whyNot, ini_X10, co_X10_whyNot, by decide +kernel⟩
theorem sV_X10_455 : SiteV RX10 455 yX10_givenBy cX10_givenBy 5 (some .int) 3 := ⟨ml_X10_455, im_X10_givenBy, se_X10_givenBy, ini_X10, co_X10_givenBy, by decide +kernel⟩
theorem sV_X10_458 : SiteV RX10 458 yX10_lossOf cX10_lossOf 8 (some .long) 3 := ⟨ml_X10_458, im_X10_lossOf, se_X10_lossOf, ini_X10, co_X10_lossOf, by decide +kernel⟩
theorem sV_X10_461 : SiteV RX10 461 yX10_bestAsk cX10_bestAsk 11 (some .int) 4 := ⟨ml_X10_461, im_X10_bestAsk, se_X10_bestAsk, ini_X10, co_X10_bestAsk, by decide +kernel⟩
theorem sS_X10_464 : SiteS RX10 464 yX10_areHundredths cX10_areHundredths 1 (some .boolean) 1 := ⟨ml_X10_464, st_X10_areHundredths, ini_X10, co_X10_areHundredths, by decide +kernel⟩
theorem sV_X10_467 : SiteV RX10 467 yX10_standing cX10_standing 5 (some .long) 4 := ⟨ml_X10_467, im_X10_standing, se_X10_standing, ini_X10, co_X10_standing, by decide +kernel⟩
theorem sV_X10_473 : SiteV RX10 473 yX10_spreadOf cX10_spreadOf 10 (some .long) 4 := ⟨ml_X10_473, im_X10_spreadOf, se_X10_spreadOf, ini_X10, co_X10_spreadOf, by decide +kernel⟩
theorem sV_X10_487 : SiteV RX10 487 yX10_drawn cX10_drawn 1 (some .int) 0 := ⟨ml_X10_487, im_X10_drawn, se_X10_drawn, ini_X10, co_X10_drawn, by decide +kernel⟩
theorem sS_X10_492 : SiteS RX10 492 yX10_isSeed cX10_isSeed 1 (some .boolean) 1 := ⟨ml_X10_492, st_X10_isSeed, ini_X10, co_X10_isSeed, by decide +kernel⟩
theorem sV_X10_495 : SiteV RX10 495 yX10_draws cX10_draws 7 (some .int) 1 := ⟨ml_X10_495, im_X10_draws, se_X10_draws, ini_X10, co_X10_draws, by decide +kernel⟩
theorem sV_X10_499 : SiteV RX10 499 yX10_tellsYear cX10_tellsYear 2 none 0 := ⟨ml_X10_499, im_X10_tellsYear, se_X10_tellsYear, ini_X10, co_X10_tellsYear, by decide +kernel⟩
theorem sV_X10_507 : SiteV RX10 507 yX10_firstLack cX10_firstLack 6 (some .int) 4 := ⟨ml_X10_507, im_X10_firstLack, se_X10_firstLack, ini_X10, co_X10_firstLack, by decide +kernel⟩
theorem sS_X10_504 : SiteS RX10 504 yX10_above cX10_above 2 (some .int) 2 := ⟨ml_X10_504, st_X10_above, ini_X10, co_X10_above, by decide +kernel⟩
theorem sV_X10_510 : SiteV RX10 510 yX10_whyNotJudged cX10_whyNotJudged 3 (some .int) 2 := ⟨ml_X10_510, im_X10_whyNotJudged, se_X10_whyNotJudged, ini_X10, co_X10_whyNotJudged, by decide +kernel⟩
theorem sV_X10_513 : SiteV RX10 513 yX10_judged cX10_judged 6 (some .int) 2 := ⟨ml_X10_513, im_X10_judged, se_X10_judged, ini_X10, co_X10_judged, by decide +kernel⟩
theorem sS_X10_124 : SiteS RX10 124 yX10_cut cX10_cut 3 (some .long) 2 := ⟨ml_X10_124, st_X10_cut, ini_X10, co_X10_cut, by decide +kernel⟩
set_option maxHeartbeats 4000000 in
set_option maxRecDepth 100000 in
theorem t_X10_isAsking (l : Launch) (D : va_G) (cy : Nat → ClassId) (base : Nat) (τ : Nat → Nat) (G : Gh) (a : Nat) (h_a : τ a = 11) (v : Int32) (r_v : 0 ≤ v.toInt ∧ v.toInt ≤ 3) : MM l yX10_isAsking cX10_isAsking 3 (some .boolean) 1 0 0 D cy [.ref a, .int v] (PT D cy base τ G) (QT D cy base τ G [90] (fun v g => ∃ r : Int32, v = some (.int r) ∧ (((r = 1) ∨ (r = 0))))) (RA base) := by
  refine MM.of (by decide) (Nat.le_of_ble_eq_true rfl) ?_
  intro p e s m below meth c C hPT ls hl
  obtain ⟨hx, hb, hr, hml, hown, hts, hlocks, hK, hnm⟩ := C
  obtain ⟨hZ, hT⟩ := hPT
  have hS : va_S (RA base) s.heap s.heap [] := va_S.rf
  have hF : Fr τ [90] G G := Fr.rf
  have hl : lv_has ls 3 [(0, .ref a), (1, .int v)] := hl
  refine lv_aload_n hx hb dX10_isAsking_0 rfl (lv_at hl 0 rfl) ?_
  refine t_getr cf_11 hx hb hts hown hK hT h_a (k := 2) (P := fun q => τ q = 52) rfl (fun _ h9 => h9) fl_X10_13 (fun _ h9 => h9) dX10_isAsking_1 (fun q_1 eq_1 hq_1 => ?_)
  refine lv_iload_n hx hb dX10_isAsking_4 rfl (lv_at hl 1 rfl) ?_
  refine t_iald (n := 4) (i := v) rfl (by decide) hx hb hK hT hq_1 (hT.len hq_1 (by decide)) ⟨by omega, by omega⟩ dX10_isAsking_5 (fun z_2 ez_2 rz_2 => ?_)
  have rz_2 : 0 ≤ z_2.toInt ∧ z_2.toInt ≤ 60 := rz_2
  refine lv_aload_n hx hb dX10_isAsking_6 rfl (lv_at hl 0 rfl) ?_
  refine t_getr cf_11 hx hb hts hown hK hT h_a (k := 20) (P := fun q => τ q = 70) rfl (fun _ h9 => h9) fl_X10_43 (fun _ h9 => h9) dX10_isAsking_7 (fun q_3 eq_3 hq_3 => ?_)
  refine lv_iconst (v := 0) hx hb dX10_isAsking_10 (by decide) ?_
  refine t_iald (n := 5) (i := 0) rfl (by decide) hx hb hK hT hq_3 (hT.len hq_3 (by decide)) ⟨by decide, by decide⟩ dX10_isAsking_11 (fun z_4 ez_4 rz_4 => ?_)
  have ez_4 : z_4 = G.1 q_3 0 := ez_4
  have rz_4 : 0 ≤ z_4.toInt ∧ z_4.toInt ≤ 6 := rz_4
  refine lv_icmp_eq (tgt := 17) hx hb dX10_isAsking_12 (by decide) (fun c_5 => ?_) (fun c_5 => ?_)
  · skip
    have tc_5 : z_2.toInt = z_4.toInt := (fa_eq _ _).mp c_5
    refine lv_iconst (v := 0) hx hb dX10_isAsking_17 (by decide) ?_
    refine lv_istore_n (lv' := [(2, .int 0), (0, .ref a), (1, .int v)]) hx hb dX10_isAsking_18 rfl hl (by decide) rfl (fun ls hl => ?_)
    refine W.loop (σ := Int32 × Gh) (fun w6 H locs ls => 0 ≤ w6.1.toInt ∧ w6.1.toInt ≤ 6 ∧ Fr τ [90] G w6.2 ∧ TY D cy base τ w6.2 H ∧ va_S (RA base) s.heap H locs ∧ lv_has ls 3 [(2, .int w6.1), (0, .ref a), (1, .int v)]) (fun w6 => (6 - w6.1.toInt).toNat) ?_ ((0 : Int32), G) _ _ _ ⟨(by show 0 ≤ (0 : Int32).toInt; decide), (by show (0 : Int32).toInt ≤ 6; decide), hF, hT, hS, lv_sub hl [0, 1, 2] rfl⟩
    intro w6 H locs ls hI ih6
    obtain ⟨x6_2, G_6⟩ := w6
    obtain ⟨i6_0, i6_1, hF, hT, hS, hl⟩ := hI
    have i6_0 : 0 ≤ x6_2.toInt := i6_0
    have i6_1 : x6_2.toInt ≤ 6 := i6_1
    have hF : Fr τ [90] G G_6 := hF
    have hT : TY D cy base τ G_6 H := hT
    have hS : va_S (RA base) s.heap H locs := hS
    have hl : lv_has ls 3 [(2, .int x6_2), (0, .ref a), (1, .int v)] := hl
    refine lv_iload_n hx hb dX10_isAsking_19 rfl (lv_at hl 0 rfl) ?_
    refine lv_aload_n hx hb dX10_isAsking_20 rfl (lv_at hl 1 rfl) ?_
    refine t_getr cf_11 hx hb hts hown hK hT h_a (k := 20) (P := fun q => τ q = 70) rfl (fun _ h9 => h9) fl_X10_43 (fun _ h9 => h9) dX10_isAsking_21 (fun q_7 eq_7 hq_7 => ?_)
    have w_8 : q_3 = q_7 := Option.some.inj (eq_3.symm.trans ((hF.r h_a (by decide) rfl _).symm.trans eq_7))
    subst w_8
    refine lv_iconst (v := 0) hx hb dX10_isAsking_24 (by decide) ?_
    refine t_iald (n := 5) (i := 0) rfl (by decide) hx hb hK hT hq_3 (hT.len hq_3 (by decide)) ⟨by decide, by decide⟩ dX10_isAsking_25 (fun z_9 ez_9 rz_9 => ?_)
    have w_10 : z_4 = z_9 := ez_4.trans (ez_9.trans (hF.i hq_3 (by decide) rfl _)).symm
    subst w_10
    refine lv_icmp_ge (tgt := 76) hx hb dX10_isAsking_26 (by decide) (fun c_11 => ?_) (fun c_11 => ?_)
    · skip
      have tc_11 : z_4.toInt ≤ x6_2.toInt := (fa_le _ _).mp c_11
      refine lv_iconst (v := 1) hx hb dX10_isAsking_76 (by decide) ?_
      exact ret_z (ty := .boolean) hx hb hr rfl hlocks ⟨⟨hS.1, hS.2.1⟩, G_6, hF, ⟨_, rfl, (Or.inl rfl)⟩, hT⟩ hS.2.2 (Nat.le_of_ble_eq_true rfl) (Nat.le_of_ble_eq_true rfl) dX10_isAsking_77
    · skip
      have tc_11 : ¬ z_4.toInt ≤ x6_2.toInt := fun h => c_11 ((fa_le _ _).mpr h)
      refine lv_aload_n hx hb dX10_isAsking_29 rfl (lv_at hl 1 rfl) ?_
      refine t_getr cf_11 hx hb hts hown hK hT h_a (k := 3) (P := fun q => τ q = 53) rfl (fun _ h9 => h9) fl_X10_16 (fun _ h9 => h9) dX10_isAsking_30 (fun q_12 eq_12 hq_12 => ?_)
      have eq_12 := (hF.r h_a (by decide) rfl _).symm.trans eq_12
      refine lv_bipush (v := 60) hx hb dX10_isAsking_33 (by decide) ?_
      refine lv_iload_n hx hb dX10_isAsking_35 rfl (lv_at hl 2 rfl) ?_
      refine lv_imul hx hb dX10_isAsking_36 ?_
      refine lv_topi (fun z_13 ez_13 => ?_)
      have tz_13 : z_13.toInt = 60 * v.toInt := mul_t ez_13 (show -2147483648 ≤ 60 * v.toInt by omega) (show 60 * v.toInt < 2147483648 by omega)
      refine lv_iload_n hx hb dX10_isAsking_37 rfl (lv_at hl 0 rfl) ?_
      refine lv_iadd hx hb dX10_isAsking_38 ?_
      refine lv_topi (fun z_14 ez_14 => ?_)
      have tz_14 : z_14.toInt = z_13.toInt + x6_2.toInt := add_t ez_14 (show -2147483648 ≤ z_13.toInt + x6_2.toInt by omega) (show z_13.toInt + x6_2.toInt < 2147483648 by omega)
      refine t_lald (n := 240) (i := z_14) rfl (by decide) hx hb hK hT hq_12 (hT.len hq_12 (by decide)) ⟨by omega, by omega⟩ dX10_isAsking_39 (fun z_15 ez_15 => ?_)
      have ez_15 := ez_15.trans (hF.l hq_12 (by decide) rfl _)
      refine lv_lconst (v := 0) hx hb dX10_isAsking_40 (by decide) ?_
      refine lv_ldc2 (v := 999) hx hb hown (hts _ kl_X10_370) dX10_isAsking_41 ?_
      refine pu_calli (runS (As := [.long z_15, .long 0, .long 999]) (rest := []) ⟨hx, hb, hml, hown, hts⟩ (t_X10_in l D cy base τ G_6 z_15 0 999) sS_X10_116 hK ⟨Nat.le_trans hZ hS.1, hT⟩ ⟨Nat.le_of_ble_eq_true rfl, Nat.le_of_ble_eq_true rfl⟩ rfl hl.1 rfl (Nat.le_of_ble_eq_true rfl) dX10_isAsking_44 ⟨Nat.le_of_ble_eq_true rfl, Nat.le_of_ble_eq_true rfl⟩) (fun r_16 hr_16 => ?_)
      have hr_16_c := hr_16
      rcases hr_16_c with hr_16_0 | hr_16_1
      · skip
        obtain ⟨er_16, hr_16_0_f0, hr_16_0_f1⟩ := hr_16_0
        have hr_16_0_f0 : 0 ≤ z_15.toInt := hr_16_0_f0
        have hr_16_0_f1 : z_15.toInt ≤ 999 := hr_16_0_f1
        subst er_16
        refine W.eq (g2 := F0 m 47 ls [.int 1]) rfl ?_
        refine lv_if_ne (tgt := 52) hx hb dX10_isAsking_47 (by decide) (fun _ => ?_) (fun c_17 => absurd c_17 (by decide))
        refine lv_aload_n hx hb dX10_isAsking_52 rfl (lv_at hl 1 rfl) ?_
        refine t_getr cf_11 hx hb hts hown hK hT h_a (k := 40) (P := fun q => τ q = 90) rfl (fun _ h9 => h9) fl_X10_105 (fun _ h9 => h9) dX10_isAsking_53 (fun q_18 eq_18 hq_18 => ?_)
        have eq_18 := (hF.r h_a (by decide) rfl _).symm.trans eq_18
        refine lv_iload_n hx hb dX10_isAsking_56 rfl (lv_at hl 0 rfl) ?_
        refine lv_aload_n hx hb dX10_isAsking_57 rfl (lv_at hl 1 rfl) ?_
        refine t_getr cf_11 hx hb hts hown hK hT h_a (k := 3) (P := fun q => τ q = 53) rfl (fun _ h9 => h9) fl_X10_16 (fun _ h9 => h9) dX10_isAsking_58 (fun q_19 eq_19 hq_19 => ?_)
        have w_20 : q_12 = q_19 := Option.some.inj (eq_12.symm.trans ((hF.r h_a (by decide) rfl _).symm.trans eq_19))
        subst w_20
        refine lv_bipush (v := 60) hx hb dX10_isAsking_61 (by decide) ?_
        refine lv_iload_n hx hb dX10_isAsking_63 rfl (lv_at hl 2 rfl) ?_
        refine lv_imul hx hb dX10_isAsking_64 ?_
        refine lv_topi (fun z_21 ez_21 => ?_)
        have w_22 : z_13 = z_21 := ez_13.trans ez_21.symm
        subst w_22
        refine lv_iload_n hx hb dX10_isAsking_65 rfl (lv_at hl 0 rfl) ?_
        refine lv_iadd hx hb dX10_isAsking_66 ?_
        refine lv_topi (fun z_23 ez_23 => ?_)
        have w_24 : z_14 = z_23 := ez_14.trans ez_23.symm
        subst w_24
        refine t_lald (n := 240) (i := z_14) rfl (by decide) hx hb hK hT hq_12 (hT.len hq_12 (by decide)) ⟨by omega, by omega⟩ dX10_isAsking_67 (fun z_25 ez_25 => ?_)
        have ez_25 := ez_25.trans (hF.l hq_12 (by decide) rfl _)
        have w_26 : z_15 = z_25 := ez_15.trans ez_25.symm
        subst w_26
        refine lv_l2i hx hb dX10_isAsking_68 rfl ?_
        refine lv_topi (fun z_27 ez_27 => ?_)
        have tz_27 : z_27.toInt = z_15.toInt := l2i_t ez_27 (by omega) (by omega)
        refine t_iast (n := 6) (i := x6_2) (x := z_27) rfl (by decide) hx hb hK hT hS hq_18 (hT.len hq_18 (by decide)) ⟨by omega, by omega⟩ (show 0 ≤ z_27.toInt ∧ z_27.toInt ≤ 999 from ⟨by omega, by omega⟩) dX10_isAsking_69 (fun H locs G_28 eG_28 hT hS => ?_)
        have hF := hF.wI eG_28 hq_18 rfl
        obtain ⟨z_29, ez_29⟩ : ∃ y : Int32, y = x6_2 + 1 := ⟨_, rfl⟩
        have tz_29 : z_29.toInt = x6_2.toInt + 1 := add_t ez_29 (show -2147483648 ≤ x6_2.toInt + 1 by omega) (show x6_2.toInt + 1 < 2147483648 by omega)
        refine lv_iinc (v := z_29) (lv' := [(2, .int z_29), (0, .ref a), (1, .int v)]) hx hb dX10_isAsking_70 hl (k := 0) rfl (by rw [ez_29]; rfl) (by decide) rfl (fun ls hl => ?_)
        refine lv_goto (tgt := 19) hx hb dX10_isAsking_73 (by decide) ?_
        exact ih6 (z_29, G_28) _ _ _ (by show (6 - z_29.toInt).toNat < (6 - x6_2.toInt).toNat; omega) ⟨(by show 0 ≤ z_29.toInt; omega), (by show z_29.toInt ≤ 6; omega), hF, hT, hS, lv_sub hl [0, 1, 2] rfl⟩
      · skip
        have er_16 := hr_16_1
        subst er_16
        refine W.eq (g2 := F0 m 47 ls [.int 0]) rfl ?_
        refine lv_if_ne (tgt := 52) hx hb dX10_isAsking_47 (by decide) (fun c_30 => absurd rfl c_30) (fun _ => ?_)
        refine lv_iconst (v := 0) hx hb dX10_isAsking_50 (by decide) ?_
        exact ret_z (ty := .boolean) hx hb hr rfl hlocks ⟨⟨hS.1, hS.2.1⟩, G_6, hF, ⟨_, rfl, (Or.inr rfl)⟩, hT⟩ hS.2.2 (Nat.le_of_ble_eq_true rfl) (Nat.le_of_ble_eq_true rfl) dX10_isAsking_51
  · skip
    have tc_5 : ¬ z_2.toInt = z_4.toInt := fun h => c_5 ((fa_eq _ _).mpr h)
    refine lv_iconst (v := 0) hx hb dX10_isAsking_15 (by decide) ?_
    exact ret_z (ty := .boolean) hx hb hr rfl hlocks ⟨⟨hS.1, hS.2.1⟩, G, hF, ⟨_, rfl, (Or.inr rfl)⟩, hT⟩ hS.2.2 (Nat.le_of_ble_eq_true rfl) (Nat.le_of_ble_eq_true rfl) dX10_isAsking_16
set_option maxHeartbeats 4000000 in
set_option maxRecDepth 100000 in
theorem t_X10_askedBy (l : Launch) (D : va_G) (cy : Nat → ClassId) (base : Nat) (τ : Nat → Nat) (G : Gh) (a : Nat) (h_a : τ a = 11) (v : Int32) (r_v : 0 ≤ v.toInt ∧ v.toInt ≤ 1000) : MM l yX10_askedBy cX10_askedBy 4 (some .int) 0 0 0 D cy [.ref a, .int v] (PT D cy base τ G) (PuI (fun r => 0 ≤ r.toInt ∧ r.toInt ≤ 6000 ∧ (0 < v.toInt ∨ r.toInt ≤ 0))) noF := by
  refine MM.of (by decide) (Nat.le_of_ble_eq_true rfl) ?_
  intro p e s m below meth c C hPT ls hl
  obtain ⟨hx, hb, hr, hml, hown, hts, hlocks, hK, hnm⟩ := C
  obtain ⟨hZ, hT⟩ := hPT
  have hS : va_S (RA base) s.heap s.heap [] := va_S.rf
  have hl : lv_has ls 4 [(0, .ref a), (1, .int v)] := hl
  refine lv_iconst (v := 0) hx hb dX10_askedBy_0 (by decide) ?_
  refine lv_istore_n (lv' := [(2, .int 0), (0, .ref a), (1, .int v)]) hx hb dX10_askedBy_1 rfl hl (by decide) rfl (fun ls hl => ?_)
  refine lv_iconst (v := 0) hx hb dX10_askedBy_2 (by decide) ?_
  refine lv_istore_n (lv' := [(3, .int 0), (2, .int 0), (0, .ref a), (1, .int v)]) hx hb dX10_askedBy_3 rfl hl (by decide) rfl (fun ls hl => ?_)
  refine W.loop (σ := Int32 × Int32) (fun w1 H locs ls => 0 ≤ w1.1.toInt ∧ w1.1.toInt ≤ 6000 ∧ 0 ≤ w1.2.toInt ∧ w1.2.toInt ≤ 6 ∧ (w1.1.toInt ≤ 1000 * w1.2.toInt) ∧ (0 < v.toInt ∨ w1.1.toInt ≤ 0) ∧ H = s.heap ∧ locs = [] ∧ lv_has ls 4 [(2, .int w1.1), (3, .int w1.2), (0, .ref a), (1, .int v)]) (fun w1 => (6 - w1.2.toInt).toNat) ?_ ((0 : Int32), (0 : Int32)) _ _ _ ⟨(by show 0 ≤ (0 : Int32).toInt; decide), (by show (0 : Int32).toInt ≤ 6000; decide), (by show 0 ≤ (0 : Int32).toInt; decide), (by show (0 : Int32).toInt ≤ 6; decide), (by show (0 : Int) ≤ 1000 * (0 : Int); first | omega | assumption | exact rfl), (by show 0 < v.toInt ∨ (0 : Int) ≤ 0; first | omega | assumption | exact rfl), rfl, rfl, lv_sub hl [1, 0, 2, 3] rfl⟩
  intro w1 H locs ls hI ih1
  obtain ⟨x1_2, x1_3⟩ := w1
  obtain ⟨i1_0, i1_1, i1_2, i1_3, i1_4, i1_5, rfl, rfl, hl⟩ := hI
  have i1_0 : 0 ≤ x1_2.toInt := i1_0
  have i1_1 : x1_2.toInt ≤ 6000 := i1_1
  have i1_2 : 0 ≤ x1_3.toInt := i1_2
  have i1_3 : x1_3.toInt ≤ 6 := i1_3
  have i1_4 : (x1_2.toInt ≤ 1000 * x1_3.toInt) := i1_4
  have i1_5 : (0 < v.toInt ∨ x1_2.toInt ≤ 0) := i1_5
  have hl : lv_has ls 4 [(2, .int x1_2), (3, .int x1_3), (0, .ref a), (1, .int v)] := hl
  refine lv_iload_n hx hb dX10_askedBy_4 rfl (lv_at hl 1 rfl) ?_
  refine lv_aload_n hx hb dX10_askedBy_5 rfl (lv_at hl 2 rfl) ?_
  refine t_getr cf_11 hx hb hts hown hK hT h_a (k := 20) (P := fun q => τ q = 70) rfl (fun _ h9 => h9) fl_X10_43 (fun _ h9 => h9) dX10_askedBy_6 (fun q_2 eq_2 hq_2 => ?_)
  refine lv_iconst (v := 0) hx hb dX10_askedBy_9 (by decide) ?_
  refine t_iald (n := 5) (i := 0) rfl (by decide) hx hb hK hT hq_2 (hT.len hq_2 (by decide)) ⟨by decide, by decide⟩ dX10_askedBy_10 (fun z_3 ez_3 rz_3 => ?_)
  have ez_3 : z_3 = G.1 q_2 0 := ez_3
  have rz_3 : 0 ≤ z_3.toInt ∧ z_3.toInt ≤ 6 := rz_3
  refine lv_icmp_ge (tgt := 43) hx hb dX10_askedBy_11 (by decide) (fun c_4 => ?_) (fun c_4 => ?_)
  · skip
    have tc_4 : z_3.toInt ≤ x1_3.toInt := (fa_le _ _).mp c_4
    refine lv_iload_n hx hb dX10_askedBy_43 rfl (lv_at hl 0 rfl) ?_
    exact ret_i hx hb hr hlocks ⟨rfl, _, rfl, ⟨(by omega), (by omega), (by show 0 < v.toInt ∨ x1_2.toInt ≤ 0; first | omega | assumption)⟩⟩ (fun _ h => absurd h List.not_mem_nil) (Nat.le_refl _) (Nat.le_refl _) dX10_askedBy_44
  · skip
    have tc_4 : ¬ z_3.toInt ≤ x1_3.toInt := fun h => c_4 ((fa_le _ _).mpr h)
    refine lv_iload_n hx hb dX10_askedBy_14 rfl (lv_at hl 0 rfl) ?_
    refine lv_aload_n hx hb dX10_askedBy_15 rfl (lv_at hl 2 rfl) ?_
    refine t_getr cf_11 hx hb hts hown hK hT h_a (k := 40) (P := fun q => τ q = 90) rfl (fun _ h9 => h9) fl_X10_105 (fun _ h9 => h9) dX10_askedBy_16 (fun q_5 eq_5 hq_5 => ?_)
    refine lv_iload_n hx hb dX10_askedBy_19 rfl (lv_at hl 1 rfl) ?_
    refine t_iald (n := 6) (i := x1_3) rfl (by decide) hx hb hK hT hq_5 (hT.len hq_5 (by decide)) ⟨by omega, by omega⟩ dX10_askedBy_20 (fun z_6 ez_6 rz_6 => ?_)
    have rz_6 : 0 ≤ z_6.toInt ∧ z_6.toInt ≤ 999 := rz_6
    refine lv_iload_n hx hb dX10_askedBy_21 rfl (lv_at hl 3 rfl) ?_
    refine lv_icmp_ge (tgt := 34) hx hb dX10_askedBy_22 (by decide) (fun c_7 => ?_) (fun c_7 => ?_)
    · skip
      have tc_7 : v.toInt ≤ z_6.toInt := (fa_le _ _).mp c_7
      refine lv_iload_n hx hb dX10_askedBy_34 rfl (lv_at hl 3 rfl) ?_
      refine lv_iadd hx hb dX10_askedBy_35 ?_
      refine lv_topi (fun z_8 ez_8 => ?_)
      have tz_8 : z_8.toInt = x1_2.toInt + v.toInt := add_t ez_8 (show -2147483648 ≤ x1_2.toInt + v.toInt by omega) (show x1_2.toInt + v.toInt < 2147483648 by omega)
      refine lv_istore_n (lv' := [(2, .int z_8), (3, .int x1_3), (0, .ref a), (1, .int v)]) hx hb dX10_askedBy_36 rfl hl (by decide) rfl (fun ls hl => ?_)
      obtain ⟨z_9, ez_9⟩ : ∃ y : Int32, y = x1_3 + 1 := ⟨_, rfl⟩
      have tz_9 : z_9.toInt = x1_3.toInt + 1 := add_t ez_9 (show -2147483648 ≤ x1_3.toInt + 1 by omega) (show x1_3.toInt + 1 < 2147483648 by omega)
      refine lv_iinc (v := z_9) (lv' := [(3, .int z_9), (2, .int z_8), (0, .ref a), (1, .int v)]) hx hb dX10_askedBy_37 hl (k := 1) rfl (by rw [ez_9]; rfl) (by decide) rfl (fun ls hl => ?_)
      refine lv_goto (tgt := 4) hx hb dX10_askedBy_40 (by decide) ?_
      exact ih1 (z_8, z_9) _ _ _ (by show (6 - z_9.toInt).toNat < (6 - x1_3.toInt).toNat; omega) ⟨(by show 0 ≤ z_8.toInt; omega), (by show z_8.toInt ≤ 6000; omega), (by show 0 ≤ z_9.toInt; omega), (by show z_9.toInt ≤ 6; omega), by show z_8.toInt ≤ 1000 * z_9.toInt; first | omega | assumption, by show 0 < v.toInt ∨ z_8.toInt ≤ 0; first | omega | assumption, rfl, rfl, lv_sub hl [1, 0, 2, 3] rfl⟩
    · skip
      have tc_7 : ¬ v.toInt ≤ z_6.toInt := fun h => c_7 ((fa_le _ _).mpr h)
      refine lv_aload_n hx hb dX10_askedBy_25 rfl (lv_at hl 2 rfl) ?_
      refine t_getr cf_11 hx hb hts hown hK hT h_a (k := 40) (P := fun q => τ q = 90) rfl (fun _ h9 => h9) fl_X10_105 (fun _ h9 => h9) dX10_askedBy_26 (fun q_10 eq_10 hq_10 => ?_)
      have w_11 : q_5 = q_10 := Option.some.inj (eq_5.symm.trans eq_10)
      subst w_11
      refine lv_iload_n hx hb dX10_askedBy_29 rfl (lv_at hl 1 rfl) ?_
      refine t_iald (n := 6) (i := x1_3) rfl (by decide) hx hb hK hT hq_5 (hT.len hq_5 (by decide)) ⟨by omega, by omega⟩ dX10_askedBy_30 (fun z_12 ez_12 rz_12 => ?_)
      have w_13 : z_6 = z_12 := ez_6.trans ez_12.symm
      subst w_13
      refine lv_goto (tgt := 35) hx hb dX10_askedBy_31 (by decide) ?_
      refine lv_iadd hx hb dX10_askedBy_35 ?_
      refine lv_topi (fun z_14 ez_14 => ?_)
      have tz_14 : z_14.toInt = x1_2.toInt + z_6.toInt := add_t ez_14 (show -2147483648 ≤ x1_2.toInt + z_6.toInt by omega) (show x1_2.toInt + z_6.toInt < 2147483648 by omega)
      refine lv_istore_n (lv' := [(2, .int z_14), (3, .int x1_3), (0, .ref a), (1, .int v)]) hx hb dX10_askedBy_36 rfl hl (by decide) rfl (fun ls hl => ?_)
      obtain ⟨z_15, ez_15⟩ : ∃ y : Int32, y = x1_3 + 1 := ⟨_, rfl⟩
      have tz_15 : z_15.toInt = x1_3.toInt + 1 := add_t ez_15 (show -2147483648 ≤ x1_3.toInt + 1 by omega) (show x1_3.toInt + 1 < 2147483648 by omega)
      refine lv_iinc (v := z_15) (lv' := [(3, .int z_15), (2, .int z_14), (0, .ref a), (1, .int v)]) hx hb dX10_askedBy_37 hl (k := 1) rfl (by rw [ez_15]; rfl) (by decide) rfl (fun ls hl => ?_)
      refine lv_goto (tgt := 4) hx hb dX10_askedBy_40 (by decide) ?_
      exact ih1 (z_14, z_15) _ _ _ (by show (6 - z_15.toInt).toNat < (6 - x1_3.toInt).toNat; omega) ⟨(by show 0 ≤ z_14.toInt; omega), (by show z_14.toInt ≤ 6000; omega), (by show 0 ≤ z_15.toInt; omega), (by show z_15.toInt ≤ 6; omega), by show z_14.toInt ≤ 1000 * z_15.toInt; first | omega | assumption, by show 0 < v.toInt ∨ z_14.toInt ≤ 0; first | omega | assumption, rfl, rfl, lv_sub hl [1, 0, 2, 3] rfl⟩
set_option maxHeartbeats 4000000 in
set_option maxRecDepth 100000 in
theorem t_X10_givenBy (l : Launch) (D : va_G) (cy : Nat → ClassId) (base : Nat) (τ : Nat → Nat) (G : Gh) (a : Nat) (h_a : τ a = 11) (u : Int32) (v : Int32) (r_v : 0 ≤ v.toInt ∧ v.toInt ≤ 99999) (w : Int32) (r_w : 0 ≤ w.toInt ∧ w.toInt ≤ 5) : MM l yX10_givenBy cX10_givenBy 5 (some .int) 1 0 0 D cy [.ref a, .int u, .int v, .int w] (PT D cy base τ G) (PuI (fun r => True)) noF := by
  refine MM.of (by decide) (Nat.le_of_ble_eq_true rfl) ?_
  intro p e s m below meth c C hPT ls hl
  obtain ⟨hx, hb, hr, hml, hown, hts, hlocks, hK, hnm⟩ := C
  obtain ⟨hZ, hT⟩ := hPT
  have hS : va_S (RA base) s.heap s.heap [] := va_S.rf
  have hl : lv_has ls 5 [(0, .ref a), (1, .int u), (2, .int v), (3, .int w)] := hl
  refine lv_iload_n hx hb dX10_givenBy_0 rfl (lv_at hl 1 rfl) ?_
  refine lv_if_ne (tgt := 38) hx hb dX10_givenBy_1 (by decide) (fun c_1 => ?_) (fun c_1 => ?_)
  · skip
    have tc_1 : ¬ u.toInt = 0 := fun h => c_1 ((fa_eq _ _).mpr h)
    refine lv_sipush (v := 999) hx hb dX10_givenBy_38 (by decide) ?_
    refine lv_istore (lv' := [(4, .int 999), (0, .ref a), (1, .int u), (2, .int v), (3, .int w)]) hx hb dX10_givenBy_41 hl (by decide) rfl (fun ls hl => ?_)
    refine W.loop (σ := Int32) (fun w2 H locs ls => 0 ≤ w2.toInt ∧ w2.toInt ≤ 999 ∧ H = s.heap ∧ locs = [] ∧ lv_has ls 5 [(4, .int w2), (0, .ref a), (1, .int u), (2, .int v), (3, .int w)]) (fun w2 => w2.toInt.toNat) ?_ ((999 : Int32)) _ _ _ ⟨(by show 0 ≤ (999 : Int32).toInt; decide), (by show (999 : Int32).toInt ≤ 999; decide), rfl, rfl, lv_sub hl [0, 1, 2, 3, 4] rfl⟩
    intro w2 H locs ls hI ih2
    obtain ⟨x2_4, e9⟩ : ∃ y, y = w2 := ⟨_, rfl⟩
    subst e9
    obtain ⟨i2_0, i2_1, rfl, rfl, hl⟩ := hI
    have i2_0 : 0 ≤ x2_4.toInt := i2_0
    have i2_1 : x2_4.toInt ≤ 999 := i2_1
    have hl : lv_has ls 5 [(4, .int x2_4), (0, .ref a), (1, .int u), (2, .int v), (3, .int w)] := hl
    refine lv_aload_n hx hb dX10_givenBy_43 rfl (lv_at hl 1 rfl) ?_
    refine lv_iload hx hb dX10_givenBy_44 (lv_at hl 0 rfl) ?_
    refine pu_calli (runV (As := [.int x2_4]) (rest := []) ⟨hx, hb, hml, hown, hts⟩ (t_X10_askedBy l D cy base τ G a h_a x2_4 ⟨by omega, by omega⟩) sV_X10_443 hK (t_recv cf_11 hK hT h_a) ⟨Nat.le_trans hZ hS.1, hT⟩ ⟨Nat.le_of_ble_eq_true rfl, Nat.le_of_ble_eq_true rfl⟩ rfl hl.1 rfl (Nat.le_of_ble_eq_true rfl) dX10_givenBy_46 ⟨Nat.le_of_ble_eq_true rfl, Nat.le_of_ble_eq_true rfl⟩) (fun r_3 hr_3 => ?_)
    obtain ⟨hr_3_lo, hr_3_hi, hr_3_p0⟩ := hr_3
    have hr_3_lo : 0 ≤ r_3.toInt := hr_3_lo
    have hr_3_hi : r_3.toInt ≤ 6000 := hr_3_hi
    have hr_3_p0 : 0 < x2_4.toInt ∨ r_3.toInt ≤ 0 := hr_3_p0
    refine lv_iload_n hx hb dX10_givenBy_49 rfl (lv_at hl 3 rfl) ?_
    refine lv_icmp_le (tgt := 59) hx hb dX10_givenBy_50 (by decide) (fun c_4 => ?_) (fun c_4 => ?_)
    · skip
      have tc_4 : r_3.toInt ≤ v.toInt := (fa_le _ _).mp c_4
      refine lv_aload_n hx hb dX10_givenBy_59 rfl (lv_at hl 1 rfl) ?_
      refine t_getr cf_11 hx hb hts hown hK hT h_a (k := 40) (P := fun q => τ q = 90) rfl (fun _ h9 => h9) fl_X10_105 (fun _ h9 => h9) dX10_givenBy_60 (fun q_5 eq_5 hq_5 => ?_)
      refine lv_iload_n hx hb dX10_givenBy_63 rfl (lv_at hl 4 rfl) ?_
      refine t_iald (n := 6) (i := w) rfl (by decide) hx hb hK hT hq_5 (hT.len hq_5 (by decide)) ⟨by omega, by omega⟩ dX10_givenBy_64 (fun z_6 ez_6 rz_6 => ?_)
      have rz_6 : 0 ≤ z_6.toInt ∧ z_6.toInt ≤ 999 := rz_6
      refine lv_iload hx hb dX10_givenBy_65 (lv_at hl 0 rfl) ?_
      refine lv_icmp_ge (tgt := 79) hx hb dX10_givenBy_67 (by decide) (fun c_7 => ?_) (fun c_7 => ?_)
      · skip
        have tc_7 : x2_4.toInt ≤ z_6.toInt := (fa_le _ _).mp c_7
        refine lv_iload hx hb dX10_givenBy_79 (lv_at hl 0 rfl) ?_
        exact ret_i hx hb hr hlocks ⟨rfl, _, rfl, trivial⟩ (fun _ h => absurd h List.not_mem_nil) (Nat.le_refl _) (Nat.le_refl _) dX10_givenBy_81
      · skip
        have tc_7 : ¬ x2_4.toInt ≤ z_6.toInt := fun h => c_7 ((fa_le _ _).mpr h)
        refine lv_aload_n hx hb dX10_givenBy_70 rfl (lv_at hl 1 rfl) ?_
        refine t_getr cf_11 hx hb hts hown hK hT h_a (k := 40) (P := fun q => τ q = 90) rfl (fun _ h9 => h9) fl_X10_105 (fun _ h9 => h9) dX10_givenBy_71 (fun q_8 eq_8 hq_8 => ?_)
        have w_9 : q_5 = q_8 := Option.some.inj (eq_5.symm.trans eq_8)
        subst w_9
        refine lv_iload_n hx hb dX10_givenBy_74 rfl (lv_at hl 4 rfl) ?_
        refine t_iald (n := 6) (i := w) rfl (by decide) hx hb hK hT hq_5 (hT.len hq_5 (by decide)) ⟨by omega, by omega⟩ dX10_givenBy_75 (fun z_10 ez_10 rz_10 => ?_)
        have w_11 : z_6 = z_10 := ez_6.trans ez_10.symm
        subst w_11
        refine lv_goto (tgt := 81) hx hb dX10_givenBy_76 (by decide) ?_
        exact ret_i hx hb hr hlocks ⟨rfl, _, rfl, trivial⟩ (fun _ h => absurd h List.not_mem_nil) (Nat.le_refl _) (Nat.le_refl _) dX10_givenBy_81
    · skip
      have tc_4 : ¬ r_3.toInt ≤ v.toInt := fun h => c_4 ((fa_le _ _).mpr h)
      obtain ⟨z_12, ez_12⟩ : ∃ y : Int32, y = x2_4 + (-1) := ⟨_, rfl⟩
      have tz_12 : z_12.toInt = x2_4.toInt + -1 := add_t ez_12 (show -2147483648 ≤ x2_4.toInt + -1 by omega) (show x2_4.toInt + -1 < 2147483648 by omega)
      refine lv_iinc (v := z_12) (lv' := [(4, .int z_12), (0, .ref a), (1, .int u), (2, .int v), (3, .int w)]) hx hb dX10_givenBy_53 hl (k := 0) rfl (by rw [ez_12]; rfl) (by decide) rfl (fun ls hl => ?_)
      refine lv_goto (tgt := 43) hx hb dX10_givenBy_56 (by decide) ?_
      exact ih2 (z_12) _ _ _ (by show z_12.toInt.toNat < x2_4.toInt.toNat; omega) ⟨(by show 0 ≤ z_12.toInt; omega), (by show z_12.toInt ≤ 999; omega), rfl, rfl, lv_sub hl [0, 1, 2, 3, 4] rfl⟩
  · skip
    have tc_1 : u.toInt = 0 := (fa_eq _ _).mp c_1
    refine lv_aload_n hx hb dX10_givenBy_4 rfl (lv_at hl 0 rfl) ?_
    refine lv_sipush (v := 1000) hx hb dX10_givenBy_5 (by decide) ?_
    refine pu_calli (runV (As := [.int 1000]) (rest := []) ⟨hx, hb, hml, hown, hts⟩ (t_X10_askedBy l D cy base τ G a h_a 1000 (by decide)) sV_X10_443 hK (t_recv cf_11 hK hT h_a) ⟨Nat.le_trans hZ hS.1, hT⟩ ⟨Nat.le_of_ble_eq_true rfl, Nat.le_of_ble_eq_true rfl⟩ rfl hl.1 rfl (Nat.le_of_ble_eq_true rfl) dX10_givenBy_8 ⟨Nat.le_of_ble_eq_true rfl, Nat.le_of_ble_eq_true rfl⟩) (fun r_13 hr_13 => ?_)
    obtain ⟨hr_13_lo, hr_13_hi, hr_13_p0⟩ := hr_13
    have hr_13_lo : 0 ≤ r_13.toInt := hr_13_lo
    have hr_13_hi : r_13.toInt ≤ 6000 := hr_13_hi
    have hr_13_p0 : 0 < (1000 : Int) ∨ r_13.toInt ≤ 0 := hr_13_p0
    refine lv_istore (lv' := [(4, .int r_13), (0, .ref a), (1, .int u), (2, .int v), (3, .int w)]) hx hb dX10_givenBy_11 hl (by decide) rfl (fun ls hl => ?_)
    refine lv_iload hx hb dX10_givenBy_13 (lv_at hl 0 rfl) ?_
    refine lv_if_ne (tgt := 22) hx hb dX10_givenBy_15 (by decide) (fun c_14 => ?_) (fun c_14 => ?_)
    · skip
      have tc_14 : ¬ r_13.toInt = 0 := fun h => c_14 ((fa_eq _ _).mpr h)
      refine lv_iload_n hx hb dX10_givenBy_22 rfl (lv_at hl 3 rfl) ?_
      refine lv_i2l hx hb dX10_givenBy_23 rfl ?_
      refine lv_topl (fun z_15 ez_15 => ?_)
      have tz_15 : z_15.toInt = v.toInt := by rw [ez_15]; exact wide_t v
      refine lv_aload_n hx hb dX10_givenBy_24 rfl (lv_at hl 1 rfl) ?_
      refine t_getr cf_11 hx hb hts hown hK hT h_a (k := 40) (P := fun q => τ q = 90) rfl (fun _ h9 => h9) fl_X10_105 (fun _ h9 => h9) dX10_givenBy_25 (fun q_16 eq_16 hq_16 => ?_)
      refine lv_iload_n hx hb dX10_givenBy_28 rfl (lv_at hl 4 rfl) ?_
      refine t_iald (n := 6) (i := w) rfl (by decide) hx hb hK hT hq_16 (hT.len hq_16 (by decide)) ⟨by omega, by omega⟩ dX10_givenBy_29 (fun z_17 ez_17 rz_17 => ?_)
      have rz_17 : 0 ≤ z_17.toInt ∧ z_17.toInt ≤ 999 := rz_17
      refine lv_i2l hx hb dX10_givenBy_30 rfl ?_
      refine lv_topl (fun z_18 ez_18 => ?_)
      have tz_18 : z_18.toInt = z_17.toInt := by rw [ez_18]; exact wide_t z_17
      refine lv_lmul hx hb dX10_givenBy_31 ?_
      refine lv_topl (fun z_19 ez_19 => ?_)
      have tz_19 : 0 ≤ z_19.toInt ∧ z_19.toInt ≤ 99899001 ∧ z_19.toInt = z_15.toInt * z_18.toInt := mulb_t64 (a := 99999) (b := 999) ez_19 (by omega) (by omega) (by omega) (by omega) (by decide)
      refine lv_iload hx hb dX10_givenBy_32 (lv_at hl 0 rfl) ?_
      refine lv_i2l hx hb dX10_givenBy_34 rfl ?_
      refine lv_topl (fun z_20 ez_20 => ?_)
      have tz_20 : z_20.toInt = r_13.toInt := by rw [ez_20]; exact wide_t r_13
      refine lv_ldiv hx hb dX10_givenBy_35 (ne0_l (by omega)) ?_
      refine lv_topl (fun z_21 ez_21 => ?_)
      have tz_21 : 0 ≤ z_21.toInt ∧ z_21.toInt ≤ z_19.toInt := divb_t64 ez_21 (by omega) (by omega)
      refine lv_l2i hx hb dX10_givenBy_36 rfl ?_
      refine lv_topi (fun z_22 ez_22 => ?_)
      have tz_22 : z_22.toInt = z_21.toInt := l2i_t ez_22 (by omega) (by omega)
      exact ret_i hx hb hr hlocks ⟨rfl, _, rfl, trivial⟩ (fun _ h => absurd h List.not_mem_nil) (Nat.le_refl _) (Nat.le_refl _) dX10_givenBy_37
    · skip
      have tc_14 : r_13.toInt = 0 := (fa_eq _ _).mp c_14
      refine lv_iconst (v := 0) hx hb dX10_givenBy_18 (by decide) ?_
      refine lv_goto (tgt := 37) hx hb dX10_givenBy_19 (by decide) ?_
      exact ret_i hx hb hr hlocks ⟨rfl, _, rfl, trivial⟩ (fun _ h => absurd h List.not_mem_nil) (Nat.le_refl _) (Nat.le_refl _) dX10_givenBy_37
set_option maxHeartbeats 4000000 in
set_option maxRecDepth 100000 in
theorem t_X10_whyNot (l : Launch) (D : va_G) (cy : Nat → ClassId) (base : Nat) (τ : Nat → Nat) (G : Gh) (a : Nat) (h_a : τ a = 11) (v0 : Int32) (v1 : Int32) (v2 : Int32) (v3 : Int32) : MM l yX10_whyNot cX10_whyNot 5 (some .int) 2 0 0 D cy [.ref a, .int v0, .int v1, .int v2, .int v3] (PT D cy base τ G) (QT D cy base τ G [90] (fun v g => ∃ r : Int32, v = some (.int r) ∧ (((r = 0 ∧ 0 ≤ v0.toInt ∧ v0.toInt ≤ 3 ∧ 0 ≤ v1.toInt ∧ v1.toInt ≤ 1 ∧ 0 ≤ v2.toInt ∧ v2.toInt ≤ 99999 ∧ 0 ≤ v3.toInt ∧ v3.toInt ≤ 5) ∨ (r = (-2)) ∨ (r = (-6)))))) (RA base) := by
  refine MM.of (by decide) (Nat.le_of_ble_eq_true rfl) ?_
  intro p e s m below meth c C hPT ls hl
  obtain ⟨hx, hb, hr, hml, hown, hts, hlocks, hK, hnm⟩ := C
  obtain ⟨hZ, hT⟩ := hPT
  have hS : va_S (RA base) s.heap s.heap [] := va_S.rf
  have hF : Fr τ [90] G G := Fr.rf
  have hl : lv_has ls 5 [(0, .ref a), (1, .int v0), (2, .int v1), (3, .int v2), (4, .int v3)] := hl
  refine lv_iload_n hx hb dX10_whyNot_0 rfl (lv_at hl 1 rfl) ?_
  refine pu_calli (runS (As := [.int v0]) (rest := []) ⟨hx, hb, hml, hown, hts⟩ (t_X10_isSlot l D cy base τ G v0) sS_X10_120 hK ⟨Nat.le_trans hZ hS.1, hT⟩ ⟨Nat.le_of_ble_eq_true rfl, Nat.le_of_ble_eq_true rfl⟩ rfl hl.1 rfl (Nat.le_of_ble_eq_true rfl) dX10_whyNot_1 ⟨Nat.le_of_ble_eq_true rfl, Nat.le_of_ble_eq_true rfl⟩) (fun r_1 hr_1 => ?_)
  have hr_1_c := hr_1
  rcases hr_1_c with hr_1_0 | hr_1_1
  · skip
    obtain ⟨er_1, hr_1_0_f0, hr_1_0_f1⟩ := hr_1_0
    have hr_1_0_f0 : 0 ≤ v0.toInt := hr_1_0_f0
    have hr_1_0_f1 : v0.toInt ≤ 3 := hr_1_0_f1
    subst er_1
    refine W.eq (g2 := F0 m 4 ls [.int 1]) rfl ?_
    refine lv_if_eq (tgt := 38) hx hb dX10_whyNot_4 (by decide) (fun c_2 => absurd c_2 (by decide)) (fun _ => ?_)
    refine lv_iload_n hx hb dX10_whyNot_7 rfl (lv_at hl 2 rfl) ?_
    refine lv_i2l hx hb dX10_whyNot_8 rfl ?_
    refine lv_topl (fun z_3 ez_3 => ?_)
    have tz_3 : z_3.toInt = v1.toInt := by rw [ez_3]; exact wide_t v1
    have az_3 := min_t v1
    have bz_3 := max_t v1
    refine lv_lconst (v := 0) hx hb dX10_whyNot_9 (by decide) ?_
    refine lv_lconst (v := 1) hx hb dX10_whyNot_10 (by decide) ?_
    refine pu_calli (runS (As := [.long z_3, .long 0, .long 1]) (rest := []) ⟨hx, hb, hml, hown, hts⟩ (t_X10_in l D cy base τ G z_3 0 1) sS_X10_116 hK ⟨Nat.le_trans hZ hS.1, hT⟩ ⟨Nat.le_of_ble_eq_true rfl, Nat.le_of_ble_eq_true rfl⟩ rfl hl.1 rfl (Nat.le_of_ble_eq_true rfl) dX10_whyNot_11 ⟨Nat.le_of_ble_eq_true rfl, Nat.le_of_ble_eq_true rfl⟩) (fun r_4 hr_4 => ?_)
    have hr_4_c := hr_4
    rcases hr_4_c with hr_4_0 | hr_4_1
    · skip
      obtain ⟨er_4, hr_4_0_f0, hr_4_0_f1⟩ := hr_4_0
      have hr_4_0_f0 : 0 ≤ z_3.toInt := hr_4_0_f0
      have hr_4_0_f1 : z_3.toInt ≤ 1 := hr_4_0_f1
      subst er_4
      refine W.eq (g2 := F0 m 14 ls [.int 1]) rfl ?_
      refine lv_if_eq (tgt := 38) hx hb dX10_whyNot_14 (by decide) (fun c_5 => absurd c_5 (by decide)) (fun _ => ?_)
      refine lv_iload_n hx hb dX10_whyNot_17 rfl (lv_at hl 3 rfl) ?_
      refine lv_i2l hx hb dX10_whyNot_18 rfl ?_
      refine lv_topl (fun z_6 ez_6 => ?_)
      have tz_6 : z_6.toInt = v2.toInt := by rw [ez_6]; exact wide_t v2
      have az_6 := min_t v2
      have bz_6 := max_t v2
      refine lv_lconst (v := 0) hx hb dX10_whyNot_19 (by decide) ?_
      refine lv_ldc2 (v := 99999) hx hb hown (hts _ kl_X10_446) dX10_whyNot_20 ?_
      refine pu_calli (runS (As := [.long z_6, .long 0, .long 99999]) (rest := []) ⟨hx, hb, hml, hown, hts⟩ (t_X10_in l D cy base τ G z_6 0 99999) sS_X10_116 hK ⟨Nat.le_trans hZ hS.1, hT⟩ ⟨Nat.le_of_ble_eq_true rfl, Nat.le_of_ble_eq_true rfl⟩ rfl hl.1 rfl (Nat.le_of_ble_eq_true rfl) dX10_whyNot_23 ⟨Nat.le_of_ble_eq_true rfl, Nat.le_of_ble_eq_true rfl⟩) (fun r_7 hr_7 => ?_)
      have hr_7_c := hr_7
      rcases hr_7_c with hr_7_0 | hr_7_1
      · skip
        obtain ⟨er_7, hr_7_0_f0, hr_7_0_f1⟩ := hr_7_0
        have hr_7_0_f0 : 0 ≤ z_6.toInt := hr_7_0_f0
        have hr_7_0_f1 : z_6.toInt ≤ 99999 := hr_7_0_f1
        subst er_7
        refine W.eq (g2 := F0 m 26 ls [.int 1]) rfl ?_
        refine lv_if_eq (tgt := 38) hx hb dX10_whyNot_26 (by decide) (fun c_8 => absurd c_8 (by decide)) (fun _ => ?_)
        refine lv_aload_n hx hb dX10_whyNot_29 rfl (lv_at hl 0 rfl) ?_
        refine lv_iload hx hb dX10_whyNot_30 (lv_at hl 4 rfl) ?_
        refine pu_calli (runV (As := [.int v3]) (rest := []) ⟨hx, hb, hml, hown, hts⟩ (t_X10_isValley l D cy base τ G a h_a v3) sV_X10_297 hK (t_recv cf_11 hK hT h_a) ⟨Nat.le_trans hZ hS.1, hT⟩ ⟨Nat.le_of_ble_eq_true rfl, Nat.le_of_ble_eq_true rfl⟩ rfl hl.1 rfl (Nat.le_of_ble_eq_true rfl) dX10_whyNot_32 ⟨Nat.le_of_ble_eq_true rfl, Nat.le_of_ble_eq_true rfl⟩) (fun r_9 hr_9 => ?_)
        have hr_9_c := hr_9
        rcases hr_9_c with hr_9_0 | hr_9_1
        · skip
          obtain ⟨er_9, hr_9_0_f0, hr_9_0_f1⟩ := hr_9_0
          have hr_9_0_f0 : 0 ≤ v3.toInt := hr_9_0_f0
          have hr_9_0_f1 : v3.toInt ≤ 5 := hr_9_0_f1
          subst er_9
          refine W.eq (g2 := F0 m 35 ls [.int 1]) rfl ?_
          refine lv_if_ne (tgt := 41) hx hb dX10_whyNot_35 (by decide) (fun _ => ?_) (fun c_10 => absurd c_10 (by decide))
          refine lv_aload_n hx hb dX10_whyNot_41 rfl (lv_at hl 0 rfl) ?_
          refine t_getr cf_11 hx hb hts hown hK hT h_a (k := 1) (P := fun q => τ q = 51) rfl (fun _ h9 => h9) fl_X10_7 (fun _ h9 => h9) dX10_whyNot_42 (fun q_11 eq_11 hq_11 => ?_)
          refine lv_iload_n hx hb dX10_whyNot_45 rfl (lv_at hl 1 rfl) ?_
          refine t_iald (n := 4) (i := v0) rfl (by decide) hx hb hK hT hq_11 (hT.len hq_11 (by decide)) ⟨by omega, by omega⟩ dX10_whyNot_46 (fun z_12 ez_12 rz_12 => ?_)
          have rz_12 : -1 ≤ z_12.toInt ∧ z_12.toInt ≤ 3 := rz_12
          refine lv_iconst (v := (-1)) hx hb dX10_whyNot_47 (by decide) ?_
          refine lv_icmp_ne (tgt := 54) hx hb dX10_whyNot_48 (by decide) (fun c_13 => ?_) (fun c_13 => ?_)
          · skip
            have tc_13 : ¬ z_12.toInt = -1 := fun h => c_13 ((fa_eq _ _).mpr h)
            refine lv_aload_n hx hb dX10_whyNot_54 rfl (lv_at hl 0 rfl) ?_
            refine lv_iload_n hx hb dX10_whyNot_55 rfl (lv_at hl 1 rfl) ?_
            refine t_calli (runV (As := [.int v0]) (rest := []) ⟨hx, hb, hml, hown, hts⟩ (t_X10_isAsking l D cy base τ G a h_a v0 ⟨by omega, by omega⟩) sV_X10_448 hK (t_recv cf_11 hK hT h_a) ⟨Nat.le_trans hZ hS.1, hT⟩ ⟨Nat.le_of_ble_eq_true rfl, Nat.le_of_ble_eq_true rfl⟩ rfl hl.1 rfl (Nat.le_of_ble_eq_true rfl) dX10_whyNot_56 ⟨Nat.le_of_ble_eq_true rfl, Nat.le_of_ble_eq_true rfl⟩) hS (fun r_14 G_14 H locs hF_14 hr_14 hT hS => ?_)
            have hF := hF.tr hF_14 rfl
            have hr_14_c := hr_14
            rcases hr_14_c with hr_14_0 | hr_14_1
            · skip
              have er_14 := hr_14_0
              subst er_14
              refine W.eq (g2 := F0 m 59 ls [.int 1]) rfl ?_
              refine lv_if_eq (tgt := 66) hx hb dX10_whyNot_59 (by decide) (fun c_15 => absurd c_15 (by decide)) (fun _ => ?_)
              refine lv_iconst (v := 0) hx hb dX10_whyNot_62 (by decide) ?_
              refine lv_goto (tgt := 68) hx hb dX10_whyNot_63 (by decide) ?_
              exact ret_i hx hb hr hlocks ⟨⟨hS.1, hS.2.1⟩, G_14, hF, ⟨_, rfl, (Or.inl ⟨rfl, (by omega), (by omega), (by omega), (by omega), (by omega), (by omega), (by omega), (by omega)⟩)⟩, hT⟩ hS.2.2 (Nat.le_of_ble_eq_true rfl) (Nat.le_of_ble_eq_true rfl) dX10_whyNot_68
            · skip
              have er_14 := hr_14_1
              subst er_14
              refine W.eq (g2 := F0 m 59 ls [.int 0]) rfl ?_
              refine lv_if_eq (tgt := 66) hx hb dX10_whyNot_59 (by decide) (fun _ => ?_) (fun c_16 => absurd (by decide) c_16)
              refine lv_bipush (v := (-2)) hx hb dX10_whyNot_66 (by decide) ?_
              exact ret_i hx hb hr hlocks ⟨⟨hS.1, hS.2.1⟩, G_14, hF, ⟨_, rfl, (Or.inr (Or.inl rfl))⟩, hT⟩ hS.2.2 (Nat.le_of_ble_eq_true rfl) (Nat.le_of_ble_eq_true rfl) dX10_whyNot_68
          · skip
            have tc_13 : z_12.toInt = -1 := (fa_eq _ _).mp c_13
            refine lv_bipush (v := (-6)) hx hb dX10_whyNot_51 (by decide) ?_
            exact ret_i hx hb hr hlocks ⟨⟨hS.1, hS.2.1⟩, G, hF, ⟨_, rfl, (Or.inr (Or.inr rfl))⟩, hT⟩ hS.2.2 (Nat.le_of_ble_eq_true rfl) (Nat.le_of_ble_eq_true rfl) dX10_whyNot_53
        · skip
          have er_9 := hr_9_1
          subst er_9
          refine W.eq (g2 := F0 m 35 ls [.int 0]) rfl ?_
          refine lv_if_ne (tgt := 41) hx hb dX10_whyNot_35 (by decide) (fun c_17 => absurd rfl c_17) (fun _ => ?_)
          refine lv_bipush (v := (-2)) hx hb dX10_whyNot_38 (by decide) ?_
          exact ret_i hx hb hr hlocks ⟨⟨hS.1, hS.2.1⟩, G, hF, ⟨_, rfl, (Or.inr (Or.inl rfl))⟩, hT⟩ hS.2.2 (Nat.le_of_ble_eq_true rfl) (Nat.le_of_ble_eq_true rfl) dX10_whyNot_40
      · skip
        have er_7 := hr_7_1
        subst er_7
        refine W.eq (g2 := F0 m 26 ls [.int 0]) rfl ?_
        refine lv_if_eq (tgt := 38) hx hb dX10_whyNot_26 (by decide) (fun _ => ?_) (fun c_18 => absurd (by decide) c_18)
        refine lv_bipush (v := (-2)) hx hb dX10_whyNot_38 (by decide) ?_
        exact ret_i hx hb hr hlocks ⟨⟨hS.1, hS.2.1⟩, G, hF, ⟨_, rfl, (Or.inr (Or.inl rfl))⟩, hT⟩ hS.2.2 (Nat.le_of_ble_eq_true rfl) (Nat.le_of_ble_eq_true rfl) dX10_whyNot_40
    · skip
      have er_4 := hr_4_1
      subst er_4
      refine W.eq (g2 := F0 m 14 ls [.int 0]) rfl ?_
      refine lv_if_eq (tgt := 38) hx hb dX10_whyNot_14 (by decide) (fun _ => ?_) (fun c_19 => absurd (by decide) c_19)
      refine lv_bipush (v := (-2)) hx hb dX10_whyNot_38 (by decide) ?_
      exact ret_i hx hb hr hlocks ⟨⟨hS.1, hS.2.1⟩, G, hF, ⟨_, rfl, (Or.inr (Or.inl rfl))⟩, hT⟩ hS.2.2 (Nat.le_of_ble_eq_true rfl) (Nat.le_of_ble_eq_true rfl) dX10_whyNot_40
  · skip
    have er_1 := hr_1_1
    subst er_1
    refine W.eq (g2 := F0 m 4 ls [.int 0]) rfl ?_
    refine lv_if_eq (tgt := 38) hx hb dX10_whyNot_4 (by decide) (fun _ => ?_) (fun c_20 => absurd (by decide) c_20)
    refine lv_bipush (v := (-2)) hx hb dX10_whyNot_38 (by decide) ?_
    exact ret_i hx hb hr hlocks ⟨⟨hS.1, hS.2.1⟩, G, hF, ⟨_, rfl, (Or.inr (Or.inl rfl))⟩, hT⟩ hS.2.2 (Nat.le_of_ble_eq_true rfl) (Nat.le_of_ble_eq_true rfl) dX10_whyNot_40
set_option maxHeartbeats 4000000 in
set_option maxRecDepth 100000 in
theorem t_X10_given (l : Launch) (D : va_G) (cy : Nat → ClassId) (base : Nat) (τ : Nat → Nat) (G : Gh) (a : Nat) (h_a : τ a = 11) (v0 : Int32) (v1 : Int32) (v2 : Int32) (v3 : Int32) : MM l yX10_given cX10_given 6 (some .int) 3 0 0 D cy [.ref a, .int v0, .int v1, .int v2, .int v3] (PT D cy base τ G) (QT D cy base τ G [11, 90] (fun v g => ∃ r : Int32, v = some (.int r) ∧ (True))) (RA base) := by
  refine MM.of (by decide) (Nat.le_of_ble_eq_true rfl) ?_
  intro p e s m below meth c C hPT ls hl
  obtain ⟨hx, hb, hr, hml, hown, hts, hlocks, hK, hnm⟩ := C
  obtain ⟨hZ, hT⟩ := hPT
  have hS : va_S (RA base) s.heap s.heap [] := va_S.rf
  have hF : Fr τ [11, 90] G G := Fr.rf
  have hl : lv_has ls 6 [(0, .ref a), (1, .int v0), (2, .int v1), (3, .int v2), (4, .int v3)] := hl
  refine lv_aload_n hx hb dX10_given_0 rfl (lv_at hl 0 rfl) ?_
  refine lv_iconst (v := 0) hx hb dX10_given_1 (by decide) ?_
  refine t_puti (x := 0) cf_11 hx hb hts hown hK hT hS h_a (k := 0) rfl trivial fl_X10_111 (fun _ h9 => h9) rfl rfl rfl dX10_given_2 (fun H locs G_1 eG_1 hT hS => ?_)
  have hF := hF.wI eG_1 h_a rfl
  refine lv_aload_n hx hb dX10_given_5 rfl (lv_at hl 0 rfl) ?_
  refine lv_iload_n hx hb dX10_given_6 rfl (lv_at hl 1 rfl) ?_
  refine lv_iload_n hx hb dX10_given_7 rfl (lv_at hl 2 rfl) ?_
  refine lv_iload_n hx hb dX10_given_8 rfl (lv_at hl 3 rfl) ?_
  refine lv_iload hx hb dX10_given_9 (lv_at hl 4 rfl) ?_
  refine t_calli (runV (As := [.int v0, .int v1, .int v2, .int v3]) (rest := []) ⟨hx, hb, hml, hown, hts⟩ (t_X10_whyNot l D cy base τ G_1 a h_a v0 v1 v2 v3) sV_X10_451 hK (t_recv cf_11 hK hT h_a) ⟨Nat.le_trans hZ hS.1, hT⟩ ⟨Nat.le_of_ble_eq_true rfl, Nat.le_of_ble_eq_true rfl⟩ rfl hl.1 rfl (Nat.le_of_ble_eq_true rfl) dX10_given_11 ⟨Nat.le_of_ble_eq_true rfl, Nat.le_of_ble_eq_true rfl⟩) hS (fun r_2 G_2 H locs hF_2 hr_2 hT hS => ?_)
  have hF := hF.tr hF_2 rfl
  have hr_2_c := hr_2
  rcases hr_2_c with hr_2_0 | hr_2_1 | hr_2_2
  · skip
    obtain ⟨er_2, hr_2_0_f0, hr_2_0_f1, hr_2_0_f2, hr_2_0_f3, hr_2_0_f4, hr_2_0_f5, hr_2_0_f6, hr_2_0_f7⟩ := hr_2_0
    have hr_2_0_f0 : 0 ≤ v0.toInt := hr_2_0_f0
    have hr_2_0_f1 : v0.toInt ≤ 3 := hr_2_0_f1
    have hr_2_0_f2 : 0 ≤ v1.toInt := hr_2_0_f2
    have hr_2_0_f3 : v1.toInt ≤ 1 := hr_2_0_f3
    have hr_2_0_f4 : 0 ≤ v2.toInt := hr_2_0_f4
    have hr_2_0_f5 : v2.toInt ≤ 99999 := hr_2_0_f5
    have hr_2_0_f6 : 0 ≤ v3.toInt := hr_2_0_f6
    have hr_2_0_f7 : v3.toInt ≤ 5 := hr_2_0_f7
    subst er_2
    refine W.eq (g2 := F0 m 14 ls [.int 0]) rfl ?_
    refine lv_istore (lv' := [(5, .int 0), (0, .ref a), (1, .int v0), (2, .int v1), (3, .int v2), (4, .int v3)]) hx hb dX10_given_14 hl (by decide) rfl (fun ls hl => ?_)
    refine lv_iload hx hb dX10_given_16 (lv_at hl 0 rfl) ?_
    refine lv_if_eq (tgt := 26) hx hb dX10_given_18 (by decide) (fun _ => ?_) (fun c_3 => absurd (by decide) c_3)
    refine lv_aload_n hx hb dX10_given_26 rfl (lv_at hl 1 rfl) ?_
    refine lv_iload_n hx hb dX10_given_27 rfl (lv_at hl 3 rfl) ?_
    refine lv_iload_n hx hb dX10_given_28 rfl (lv_at hl 4 rfl) ?_
    refine lv_iload hx hb dX10_given_29 (lv_at hl 5 rfl) ?_
    refine pu_calli (runV (As := [.int v1, .int v2, .int v3]) (rest := []) ⟨hx, hb, hml, hown, hts⟩ (t_X10_givenBy l D cy base τ G_2 a h_a v1 v2 ⟨by omega, by omega⟩ v3 ⟨by omega, by omega⟩) sV_X10_455 hK (t_recv cf_11 hK hT h_a) ⟨Nat.le_trans hZ hS.1, hT⟩ ⟨Nat.le_of_ble_eq_true rfl, Nat.le_of_ble_eq_true rfl⟩ rfl hl.1 rfl (Nat.le_of_ble_eq_true rfl) dX10_given_31 ⟨Nat.le_of_ble_eq_true rfl, Nat.le_of_ble_eq_true rfl⟩) (fun r_4 hr_4 => ?_)
    exact ret_i hx hb hr hlocks ⟨⟨hS.1, hS.2.1⟩, G_2, hF, ⟨_, rfl, trivial⟩, hT⟩ hS.2.2 (Nat.le_of_ble_eq_true rfl) (Nat.le_of_ble_eq_true rfl) dX10_given_34
  · skip
    have er_2 := hr_2_1
    subst er_2
    refine W.eq (g2 := F0 m 14 ls [.int (-2)]) rfl ?_
    refine lv_istore (lv' := [(5, .int (-2)), (0, .ref a), (1, .int v0), (2, .int v1), (3, .int v2), (4, .int v3)]) hx hb dX10_given_14 hl (by decide) rfl (fun ls hl => ?_)
    refine lv_iload hx hb dX10_given_16 (lv_at hl 0 rfl) ?_
    refine lv_if_eq (tgt := 26) hx hb dX10_given_18 (by decide) (fun c_5 => absurd c_5 (by decide)) (fun _ => ?_)
    refine lv_iload hx hb dX10_given_21 (lv_at hl 0 rfl) ?_
    refine lv_goto (tgt := 34) hx hb dX10_given_23 (by decide) ?_
    exact ret_i hx hb hr hlocks ⟨⟨hS.1, hS.2.1⟩, G_2, hF, ⟨_, rfl, trivial⟩, hT⟩ hS.2.2 (Nat.le_of_ble_eq_true rfl) (Nat.le_of_ble_eq_true rfl) dX10_given_34
  · skip
    have er_2 := hr_2_2
    subst er_2
    refine W.eq (g2 := F0 m 14 ls [.int (-6)]) rfl ?_
    refine lv_istore (lv' := [(5, .int (-6)), (0, .ref a), (1, .int v0), (2, .int v1), (3, .int v2), (4, .int v3)]) hx hb dX10_given_14 hl (by decide) rfl (fun ls hl => ?_)
    refine lv_iload hx hb dX10_given_16 (lv_at hl 0 rfl) ?_
    refine lv_if_eq (tgt := 26) hx hb dX10_given_18 (by decide) (fun c_6 => absurd c_6 (by decide)) (fun _ => ?_)
    refine lv_iload hx hb dX10_given_21 (lv_at hl 0 rfl) ?_
    refine lv_goto (tgt := 34) hx hb dX10_given_23 (by decide) ?_
    exact ret_i hx hb hr hlocks ⟨⟨hS.1, hS.2.1⟩, G_2, hF, ⟨_, rfl, trivial⟩, hT⟩ hS.2.2 (Nat.le_of_ble_eq_true rfl) (Nat.le_of_ble_eq_true rfl) dX10_given_34
set_option maxHeartbeats 4000000 in
set_option maxRecDepth 100000 in
theorem t_X10_lossOf (l : Launch) (D : va_G) (cy : Nat → ClassId) (base : Nat) (τ : Nat → Nat) (G : Gh) (a : Nat) (h_a : τ a = 11) (v : Int32) (r_v : 0 ≤ v.toInt ∧ v.toInt ≤ 5) (w : Int32) (r_w : 0 ≤ w.toInt ∧ w.toInt ≤ 2) (z : Int32) : MM l yX10_lossOf cX10_lossOf 8 (some .long) 2 0 0 D cy [.ref a, .int v, .int w, .int z] (PT D cy base τ G) (PuL (fun r => True)) noF := by
  refine MM.of (by decide) (Nat.le_of_ble_eq_true rfl) ?_
  intro p e s m below meth c C hPT ls hl
  obtain ⟨hx, hb, hr, hml, hown, hts, hlocks, hK, hnm⟩ := C
  obtain ⟨hZ, hT⟩ := hPT
  have hS : va_S (RA base) s.heap s.heap [] := va_S.rf
  have hl : lv_has ls 8 [(0, .ref a), (1, .int v), (2, .int w), (3, .int z)] := hl
  refine lv_iload_n hx hb dX10_lossOf_0 rfl (lv_at hl 3 rfl) ?_
  refine lv_sipush (v := 999) hx hb dX10_lossOf_1 (by decide) ?_
  refine lv_icmp_le (tgt := 13) hx hb dX10_lossOf_4 (by decide) (fun c_1 => ?_) (fun c_1 => ?_)
  · skip
    have tc_1 : z.toInt ≤ 999 := (fa_le _ _).mp c_1
    refine lv_iload_n hx hb dX10_lossOf_13 rfl (lv_at hl 3 rfl) ?_
    refine lv_istore (lv' := [(4, .int z), (0, .ref a), (1, .int v), (2, .int w), (3, .int z)]) hx hb dX10_lossOf_14 hl (by decide) rfl (fun ls hl => ?_)
    refine lv_lconst (v := 0) hx hb dX10_lossOf_16 (by decide) ?_
    refine lv_lstore (lv' := [(5, .long 0), (4, .int z), (0, .ref a), (1, .int v), (2, .int w), (3, .int z)]) hx hb dX10_lossOf_17 hl (by decide) rfl (fun ls hl => ?_)
    refine lv_iconst (v := 0) hx hb dX10_lossOf_19 (by decide) ?_
    refine lv_istore (lv' := [(7, .int 0), (5, .long 0), (4, .int z), (0, .ref a), (1, .int v), (2, .int w), (3, .int z)]) hx hb dX10_lossOf_20 hl (by decide) rfl (fun ls hl => ?_)
    refine W.loop (σ := Int64 × Int32) (fun w2 H locs ls => 0 ≤ w2.2.toInt ∧ w2.2.toInt ≤ 61 ∧ H = s.heap ∧ locs = [] ∧ lv_has ls 8 [(5, .long w2.1), (7, .int w2.2), (4, .int z), (0, .ref a), (1, .int v), (2, .int w), (3, .int z)]) (fun w2 => (61 - w2.2.toInt).toNat) ?_ ((0 : Int64), (0 : Int32)) _ _ _ ⟨(by show 0 ≤ (0 : Int32).toInt; decide), (by show (0 : Int32).toInt ≤ 61; decide), rfl, rfl, lv_sub hl [1, 0, 2, 3, 4, 5, 6] rfl⟩
    intro w2 H locs ls hI ih2
    obtain ⟨x2_5, x2_7⟩ := w2
    obtain ⟨i2_0, i2_1, rfl, rfl, hl⟩ := hI
    have i2_0 : 0 ≤ x2_7.toInt := i2_0
    have i2_1 : x2_7.toInt ≤ 61 := i2_1
    have hl : lv_has ls 8 [(5, .long x2_5), (7, .int x2_7), (4, .int z), (0, .ref a), (1, .int v), (2, .int w), (3, .int z)] := hl
    refine lv_iload hx hb dX10_lossOf_22 (lv_at hl 1 rfl) ?_
    refine lv_aload_n hx hb dX10_lossOf_24 rfl (lv_at hl 3 rfl) ?_
    obtain ⟨q_3, eq_3, hq_3⟩ := (show ∃ q, G.2.2.1 a 17 = some q ∧ τ q = 67 from hT.rgr h_a (by decide) 17)
    obtain ⟨z_4, ez_4⟩ : ∃ y : Int32, y = G.1 q_3 0 := ⟨_, rfl⟩
    have qz_4 : (0 % 4 = 0 → 0 ≤ z_4.toInt ∧ z_4.toInt ≤ 60) := by rw [ez_4]; exact hT.rgi hq_3 (by decide) 0
    have rz_4 : 0 ≤ z_4.toInt ∧ z_4.toInt ≤ 60 := by omega
    refine pu_calli (runV (As := []) (rest := [.int x2_7]) ⟨hx, hb, hml, hown, hts⟩ (t_X10_lastDay l D cy base τ G a h_a q_3 hq_3 eq_3 z_4 ez_4 ⟨by omega, by omega⟩) sV_X10_278 hK (t_recv cf_11 hK hT h_a) ⟨Nat.le_trans hZ hS.1, hT⟩ ⟨Nat.le_of_ble_eq_true rfl, Nat.le_of_ble_eq_true rfl⟩ rfl hl.1 rfl (Nat.le_of_ble_eq_true rfl) dX10_lossOf_25 ⟨Nat.le_of_ble_eq_true rfl, Nat.le_of_ble_eq_true rfl⟩) (fun r_5 hr_5 => ?_)
    have er_5 := hr_5
    have er_5 := er_5.symm
    subst er_5
    refine W.eq (g2 := F0 m 28 ls [.int z_4, .int x2_7]) rfl ?_
    refine lv_icmp_gt (tgt := 86) hx hb dX10_lossOf_28 (by decide) (fun c_6 => ?_) (fun c_6 => ?_)
    · skip
      have tc_6 : z_4.toInt < x2_7.toInt := (fa_lt _ _).mp c_6
      refine lv_lload hx hb dX10_lossOf_86 (lv_at hl 0 rfl) ?_
      exact ret_l hx hb hr hlocks ⟨rfl, _, rfl, trivial⟩ (fun _ h => absurd h List.not_mem_nil) (Nat.le_refl _) (Nat.le_refl _) dX10_lossOf_88
    · skip
      have tc_6 : ¬ z_4.toInt < x2_7.toInt := fun h => c_6 ((fa_lt _ _).mpr h)
      refine lv_lload hx hb dX10_lossOf_31 (lv_at hl 0 rfl) ?_
      refine lv_aload_n hx hb dX10_lossOf_33 rfl (lv_at hl 3 rfl) ?_
      refine lv_iload_n hx hb dX10_lossOf_34 rfl (lv_at hl 4 rfl) ?_
      refine lv_iload_n hx hb dX10_lossOf_35 rfl (lv_at hl 5 rfl) ?_
      refine lv_iload hx hb dX10_lossOf_36 (lv_at hl 1 rfl) ?_
      refine pu_calli (runV (As := [.int v, .int w, .int x2_7]) (rest := [.long x2_5]) ⟨hx, hb, hml, hown, hts⟩ (t_X10_wantsOf l D cy base τ G a h_a v ⟨by omega, by omega⟩ w ⟨by omega, by omega⟩ x2_7) sV_X10_353 hK (t_recv cf_11 hK hT h_a) ⟨Nat.le_trans hZ hS.1, hT⟩ ⟨Nat.le_of_ble_eq_true rfl, Nat.le_of_ble_eq_true rfl⟩ rfl hl.1 rfl (Nat.le_of_ble_eq_true rfl) dX10_lossOf_38 ⟨Nat.le_of_ble_eq_true rfl, Nat.le_of_ble_eq_true rfl⟩) (fun r_7 hr_7 => ?_)
      refine lv_iload hx hb dX10_lossOf_41 (lv_at hl 2 rfl) ?_
      refine lv_icmp_le (tgt := 76) hx hb dX10_lossOf_43 (by decide) (fun c_8 => ?_) (fun c_8 => ?_)
      · skip
        have tc_8 : r_7.toInt ≤ z.toInt := (fa_le _ _).mp c_8
        refine lv_lconst (v := 0) hx hb dX10_lossOf_76 (by decide) ?_
        refine lv_ladd hx hb dX10_lossOf_77 ?_
        refine lv_topl (fun z_9 ez_9 => ?_)
        refine lv_lstore (lv' := [(5, .long z_9), (7, .int x2_7), (4, .int z), (0, .ref a), (1, .int v), (2, .int w), (3, .int z)]) hx hb dX10_lossOf_78 hl (by decide) rfl (fun ls hl => ?_)
        obtain ⟨z_10, ez_10⟩ : ∃ y : Int32, y = x2_7 + 1 := ⟨_, rfl⟩
        have tz_10 : z_10.toInt = x2_7.toInt + 1 := add_t ez_10 (show -2147483648 ≤ x2_7.toInt + 1 by omega) (show x2_7.toInt + 1 < 2147483648 by omega)
        refine lv_iinc (v := z_10) (lv' := [(7, .int z_10), (5, .long z_9), (4, .int z), (0, .ref a), (1, .int v), (2, .int w), (3, .int z)]) hx hb dX10_lossOf_80 hl (k := 1) rfl (by rw [ez_10]; rfl) (by decide) rfl (fun ls hl => ?_)
        refine lv_goto (tgt := 22) hx hb dX10_lossOf_83 (by decide) ?_
        exact ih2 (z_9, z_10) _ _ _ (by show (61 - z_10.toInt).toNat < (61 - x2_7.toInt).toNat; omega) ⟨(by show 0 ≤ z_10.toInt; omega), (by show z_10.toInt ≤ 61; omega), rfl, rfl, lv_sub hl [1, 0, 2, 3, 4, 5, 6] rfl⟩
      · skip
        have tc_8 : ¬ r_7.toInt ≤ z.toInt := fun h => c_8 ((fa_le _ _).mpr h)
        have mc_8 : r_7.toInt ≤ 2147483647 := max_t r_7
        refine lv_aload_n hx hb dX10_lossOf_46 rfl (lv_at hl 3 rfl) ?_
        refine t_getr cf_11 hx hb hts hown hK hT h_a (k := 29) (P := fun q => τ q = 79) rfl (fun _ h9 => h9) fl_X10_71 (fun _ h9 => h9) dX10_lossOf_47 (fun q_11 eq_11 hq_11 => ?_)
        refine lv_iload hx hb dX10_lossOf_50 (lv_at hl 1 rfl) ?_
        refine t_lald (n := 61) (i := x2_7) rfl (by decide) hx hb hK hT hq_11 (hT.len hq_11 (by decide)) ⟨by omega, by omega⟩ dX10_lossOf_52 (fun z_12 ez_12 => ?_)
        refine lv_aload_n hx hb dX10_lossOf_53 rfl (lv_at hl 3 rfl) ?_
        refine lv_iload_n hx hb dX10_lossOf_54 rfl (lv_at hl 5 rfl) ?_
        refine pu_calli (runV (As := [.int w]) (rest := [.long z_12, .long x2_5]) ⟨hx, hb, hml, hown, hts⟩ (t_X10_harmOf l D cy base τ G a h_a w ⟨by omega, by omega⟩) sV_X10_357 hK (t_recv cf_11 hK hT h_a) ⟨Nat.le_trans hZ hS.1, hT⟩ ⟨Nat.le_of_ble_eq_true rfl, Nat.le_of_ble_eq_true rfl⟩ rfl hl.1 rfl (Nat.le_of_ble_eq_true rfl) dX10_lossOf_55 ⟨Nat.le_of_ble_eq_true rfl, Nat.le_of_ble_eq_true rfl⟩) (fun r_13 hr_13 => ?_)
        refine lv_i2l hx hb dX10_lossOf_58 rfl ?_
        refine lv_topl (fun z_14 ez_14 => ?_)
        have tz_14 : z_14.toInt = r_13.toInt := by rw [ez_14]; exact wide_t r_13
        have az_14 := min_t r_13
        have bz_14 := max_t r_13
        refine lv_lmul hx hb dX10_lossOf_59 ?_
        refine lv_topl (fun z_15 ez_15 => ?_)
        refine lv_aload_n hx hb dX10_lossOf_60 rfl (lv_at hl 3 rfl) ?_
        refine lv_iload_n hx hb dX10_lossOf_61 rfl (lv_at hl 4 rfl) ?_
        refine lv_iload_n hx hb dX10_lossOf_62 rfl (lv_at hl 5 rfl) ?_
        refine lv_iload hx hb dX10_lossOf_63 (lv_at hl 1 rfl) ?_
        refine pu_calli (runV (As := [.int v, .int w, .int x2_7]) (rest := [.long z_15, .long x2_5]) ⟨hx, hb, hml, hown, hts⟩ (t_X10_wantsOf l D cy base τ G a h_a v ⟨by omega, by omega⟩ w ⟨by omega, by omega⟩ x2_7) sV_X10_353 hK (t_recv cf_11 hK hT h_a) ⟨Nat.le_trans hZ hS.1, hT⟩ ⟨Nat.le_of_ble_eq_true rfl, Nat.le_of_ble_eq_true rfl⟩ rfl hl.1 rfl (Nat.le_of_ble_eq_true rfl) dX10_lossOf_65 ⟨Nat.le_of_ble_eq_true rfl, Nat.le_of_ble_eq_true rfl⟩) (fun r_16 hr_16 => ?_)
        refine lv_iload hx hb dX10_lossOf_68 (lv_at hl 2 rfl) ?_
        refine lv_isub hx hb dX10_lossOf_70 ?_
        refine lv_topi (fun z_17 ez_17 => ?_)
        refine lv_i2l hx hb dX10_lossOf_71 rfl ?_
        refine lv_topl (fun z_18 ez_18 => ?_)
        have tz_18 : z_18.toInt = z_17.toInt := by rw [ez_18]; exact wide_t z_17
        have az_18 := min_t z_17
        have bz_18 := max_t z_17
        refine lv_lmul hx hb dX10_lossOf_72 ?_
        refine lv_topl (fun z_19 ez_19 => ?_)
        refine lv_goto (tgt := 77) hx hb dX10_lossOf_73 (by decide) ?_
        refine lv_ladd hx hb dX10_lossOf_77 ?_
        refine lv_topl (fun z_20 ez_20 => ?_)
        refine lv_lstore (lv' := [(5, .long z_20), (7, .int x2_7), (4, .int z), (0, .ref a), (1, .int v), (2, .int w), (3, .int z)]) hx hb dX10_lossOf_78 hl (by decide) rfl (fun ls hl => ?_)
        obtain ⟨z_21, ez_21⟩ : ∃ y : Int32, y = x2_7 + 1 := ⟨_, rfl⟩
        have tz_21 : z_21.toInt = x2_7.toInt + 1 := add_t ez_21 (show -2147483648 ≤ x2_7.toInt + 1 by omega) (show x2_7.toInt + 1 < 2147483648 by omega)
        refine lv_iinc (v := z_21) (lv' := [(7, .int z_21), (5, .long z_20), (4, .int z), (0, .ref a), (1, .int v), (2, .int w), (3, .int z)]) hx hb dX10_lossOf_80 hl (k := 1) rfl (by rw [ez_21]; rfl) (by decide) rfl (fun ls hl => ?_)
        refine lv_goto (tgt := 22) hx hb dX10_lossOf_83 (by decide) ?_
        exact ih2 (z_20, z_21) _ _ _ (by show (61 - z_21.toInt).toNat < (61 - x2_7.toInt).toNat; omega) ⟨(by show 0 ≤ z_21.toInt; omega), (by show z_21.toInt ≤ 61; omega), rfl, rfl, lv_sub hl [1, 0, 2, 3, 4, 5, 6] rfl⟩
  · skip
    have tc_1 : ¬ z.toInt ≤ 999 := fun h => c_1 ((fa_le _ _).mpr h)
    have mc_1 : z.toInt ≤ 2147483647 := max_t z
    refine lv_sipush (v := 999) hx hb dX10_lossOf_7 (by decide) ?_
    refine lv_goto (tgt := 14) hx hb dX10_lossOf_10 (by decide) ?_
    refine lv_istore (lv' := [(4, .int 999), (0, .ref a), (1, .int v), (2, .int w), (3, .int z)]) hx hb dX10_lossOf_14 hl (by decide) rfl (fun ls hl => ?_)
    refine lv_lconst (v := 0) hx hb dX10_lossOf_16 (by decide) ?_
    refine lv_lstore (lv' := [(5, .long 0), (4, .int 999), (0, .ref a), (1, .int v), (2, .int w), (3, .int z)]) hx hb dX10_lossOf_17 hl (by decide) rfl (fun ls hl => ?_)
    refine lv_iconst (v := 0) hx hb dX10_lossOf_19 (by decide) ?_
    refine lv_istore (lv' := [(7, .int 0), (5, .long 0), (4, .int 999), (0, .ref a), (1, .int v), (2, .int w), (3, .int z)]) hx hb dX10_lossOf_20 hl (by decide) rfl (fun ls hl => ?_)
    refine W.loop (σ := Int64 × Int32) (fun w22 H locs ls => 0 ≤ w22.2.toInt ∧ w22.2.toInt ≤ 61 ∧ H = s.heap ∧ locs = [] ∧ lv_has ls 8 [(5, .long w22.1), (7, .int w22.2), (4, .int 999), (0, .ref a), (1, .int v), (2, .int w), (3, .int z)]) (fun w22 => (61 - w22.2.toInt).toNat) ?_ ((0 : Int64), (0 : Int32)) _ _ _ ⟨(by show 0 ≤ (0 : Int32).toInt; decide), (by show (0 : Int32).toInt ≤ 61; decide), rfl, rfl, lv_sub hl [1, 0, 2, 3, 4, 5, 6] rfl⟩
    intro w22 H locs ls hI ih22
    obtain ⟨x22_5, x22_7⟩ := w22
    obtain ⟨i22_0, i22_1, rfl, rfl, hl⟩ := hI
    have i22_0 : 0 ≤ x22_7.toInt := i22_0
    have i22_1 : x22_7.toInt ≤ 61 := i22_1
    have hl : lv_has ls 8 [(5, .long x22_5), (7, .int x22_7), (4, .int 999), (0, .ref a), (1, .int v), (2, .int w), (3, .int z)] := hl
    refine lv_iload hx hb dX10_lossOf_22 (lv_at hl 1 rfl) ?_
    refine lv_aload_n hx hb dX10_lossOf_24 rfl (lv_at hl 3 rfl) ?_
    obtain ⟨q_23, eq_23, hq_23⟩ := (show ∃ q, G.2.2.1 a 17 = some q ∧ τ q = 67 from hT.rgr h_a (by decide) 17)
    obtain ⟨z_24, ez_24⟩ : ∃ y : Int32, y = G.1 q_23 0 := ⟨_, rfl⟩
    have qz_24 : (0 % 4 = 0 → 0 ≤ z_24.toInt ∧ z_24.toInt ≤ 60) := by rw [ez_24]; exact hT.rgi hq_23 (by decide) 0
    have rz_24 : 0 ≤ z_24.toInt ∧ z_24.toInt ≤ 60 := by omega
    refine pu_calli (runV (As := []) (rest := [.int x22_7]) ⟨hx, hb, hml, hown, hts⟩ (t_X10_lastDay l D cy base τ G a h_a q_23 hq_23 eq_23 z_24 ez_24 ⟨by omega, by omega⟩) sV_X10_278 hK (t_recv cf_11 hK hT h_a) ⟨Nat.le_trans hZ hS.1, hT⟩ ⟨Nat.le_of_ble_eq_true rfl, Nat.le_of_ble_eq_true rfl⟩ rfl hl.1 rfl (Nat.le_of_ble_eq_true rfl) dX10_lossOf_25 ⟨Nat.le_of_ble_eq_true rfl, Nat.le_of_ble_eq_true rfl⟩) (fun r_25 hr_25 => ?_)
    have er_25 := hr_25
    have er_25 := er_25.symm
    subst er_25
    refine W.eq (g2 := F0 m 28 ls [.int z_24, .int x22_7]) rfl ?_
    refine lv_icmp_gt (tgt := 86) hx hb dX10_lossOf_28 (by decide) (fun c_26 => ?_) (fun c_26 => ?_)
    · skip
      have tc_26 : z_24.toInt < x22_7.toInt := (fa_lt _ _).mp c_26
      refine lv_lload hx hb dX10_lossOf_86 (lv_at hl 0 rfl) ?_
      exact ret_l hx hb hr hlocks ⟨rfl, _, rfl, trivial⟩ (fun _ h => absurd h List.not_mem_nil) (Nat.le_refl _) (Nat.le_refl _) dX10_lossOf_88
    · skip
      have tc_26 : ¬ z_24.toInt < x22_7.toInt := fun h => c_26 ((fa_lt _ _).mpr h)
      refine lv_lload hx hb dX10_lossOf_31 (lv_at hl 0 rfl) ?_
      refine lv_aload_n hx hb dX10_lossOf_33 rfl (lv_at hl 3 rfl) ?_
      refine lv_iload_n hx hb dX10_lossOf_34 rfl (lv_at hl 4 rfl) ?_
      refine lv_iload_n hx hb dX10_lossOf_35 rfl (lv_at hl 5 rfl) ?_
      refine lv_iload hx hb dX10_lossOf_36 (lv_at hl 1 rfl) ?_
      refine pu_calli (runV (As := [.int v, .int w, .int x22_7]) (rest := [.long x22_5]) ⟨hx, hb, hml, hown, hts⟩ (t_X10_wantsOf l D cy base τ G a h_a v ⟨by omega, by omega⟩ w ⟨by omega, by omega⟩ x22_7) sV_X10_353 hK (t_recv cf_11 hK hT h_a) ⟨Nat.le_trans hZ hS.1, hT⟩ ⟨Nat.le_of_ble_eq_true rfl, Nat.le_of_ble_eq_true rfl⟩ rfl hl.1 rfl (Nat.le_of_ble_eq_true rfl) dX10_lossOf_38 ⟨Nat.le_of_ble_eq_true rfl, Nat.le_of_ble_eq_true rfl⟩) (fun r_27 hr_27 => ?_)
      refine lv_iload hx hb dX10_lossOf_41 (lv_at hl 2 rfl) ?_
      refine lv_icmp_le (tgt := 76) hx hb dX10_lossOf_43 (by decide) (fun c_28 => ?_) (fun c_28 => ?_)
      · skip
        have tc_28 : r_27.toInt ≤ 999 := (fa_le _ _).mp c_28
        refine lv_lconst (v := 0) hx hb dX10_lossOf_76 (by decide) ?_
        refine lv_ladd hx hb dX10_lossOf_77 ?_
        refine lv_topl (fun z_29 ez_29 => ?_)
        refine lv_lstore (lv' := [(5, .long z_29), (7, .int x22_7), (4, .int 999), (0, .ref a), (1, .int v), (2, .int w), (3, .int z)]) hx hb dX10_lossOf_78 hl (by decide) rfl (fun ls hl => ?_)
        obtain ⟨z_30, ez_30⟩ : ∃ y : Int32, y = x22_7 + 1 := ⟨_, rfl⟩
        have tz_30 : z_30.toInt = x22_7.toInt + 1 := add_t ez_30 (show -2147483648 ≤ x22_7.toInt + 1 by omega) (show x22_7.toInt + 1 < 2147483648 by omega)
        refine lv_iinc (v := z_30) (lv' := [(7, .int z_30), (5, .long z_29), (4, .int 999), (0, .ref a), (1, .int v), (2, .int w), (3, .int z)]) hx hb dX10_lossOf_80 hl (k := 1) rfl (by rw [ez_30]; rfl) (by decide) rfl (fun ls hl => ?_)
        refine lv_goto (tgt := 22) hx hb dX10_lossOf_83 (by decide) ?_
        exact ih22 (z_29, z_30) _ _ _ (by show (61 - z_30.toInt).toNat < (61 - x22_7.toInt).toNat; omega) ⟨(by show 0 ≤ z_30.toInt; omega), (by show z_30.toInt ≤ 61; omega), rfl, rfl, lv_sub hl [1, 0, 2, 3, 4, 5, 6] rfl⟩
      · skip
        have tc_28 : ¬ r_27.toInt ≤ 999 := fun h => c_28 ((fa_le _ _).mpr h)
        have mc_28 : r_27.toInt ≤ 2147483647 := max_t r_27
        refine lv_aload_n hx hb dX10_lossOf_46 rfl (lv_at hl 3 rfl) ?_
        refine t_getr cf_11 hx hb hts hown hK hT h_a (k := 29) (P := fun q => τ q = 79) rfl (fun _ h9 => h9) fl_X10_71 (fun _ h9 => h9) dX10_lossOf_47 (fun q_31 eq_31 hq_31 => ?_)
        refine lv_iload hx hb dX10_lossOf_50 (lv_at hl 1 rfl) ?_
        refine t_lald (n := 61) (i := x22_7) rfl (by decide) hx hb hK hT hq_31 (hT.len hq_31 (by decide)) ⟨by omega, by omega⟩ dX10_lossOf_52 (fun z_32 ez_32 => ?_)
        refine lv_aload_n hx hb dX10_lossOf_53 rfl (lv_at hl 3 rfl) ?_
        refine lv_iload_n hx hb dX10_lossOf_54 rfl (lv_at hl 5 rfl) ?_
        refine pu_calli (runV (As := [.int w]) (rest := [.long z_32, .long x22_5]) ⟨hx, hb, hml, hown, hts⟩ (t_X10_harmOf l D cy base τ G a h_a w ⟨by omega, by omega⟩) sV_X10_357 hK (t_recv cf_11 hK hT h_a) ⟨Nat.le_trans hZ hS.1, hT⟩ ⟨Nat.le_of_ble_eq_true rfl, Nat.le_of_ble_eq_true rfl⟩ rfl hl.1 rfl (Nat.le_of_ble_eq_true rfl) dX10_lossOf_55 ⟨Nat.le_of_ble_eq_true rfl, Nat.le_of_ble_eq_true rfl⟩) (fun r_33 hr_33 => ?_)
        refine lv_i2l hx hb dX10_lossOf_58 rfl ?_
        refine lv_topl (fun z_34 ez_34 => ?_)
        have tz_34 : z_34.toInt = r_33.toInt := by rw [ez_34]; exact wide_t r_33
        have az_34 := min_t r_33
        have bz_34 := max_t r_33
        refine lv_lmul hx hb dX10_lossOf_59 ?_
        refine lv_topl (fun z_35 ez_35 => ?_)
        refine lv_aload_n hx hb dX10_lossOf_60 rfl (lv_at hl 3 rfl) ?_
        refine lv_iload_n hx hb dX10_lossOf_61 rfl (lv_at hl 4 rfl) ?_
        refine lv_iload_n hx hb dX10_lossOf_62 rfl (lv_at hl 5 rfl) ?_
        refine lv_iload hx hb dX10_lossOf_63 (lv_at hl 1 rfl) ?_
        refine pu_calli (runV (As := [.int v, .int w, .int x22_7]) (rest := [.long z_35, .long x22_5]) ⟨hx, hb, hml, hown, hts⟩ (t_X10_wantsOf l D cy base τ G a h_a v ⟨by omega, by omega⟩ w ⟨by omega, by omega⟩ x22_7) sV_X10_353 hK (t_recv cf_11 hK hT h_a) ⟨Nat.le_trans hZ hS.1, hT⟩ ⟨Nat.le_of_ble_eq_true rfl, Nat.le_of_ble_eq_true rfl⟩ rfl hl.1 rfl (Nat.le_of_ble_eq_true rfl) dX10_lossOf_65 ⟨Nat.le_of_ble_eq_true rfl, Nat.le_of_ble_eq_true rfl⟩) (fun r_36 hr_36 => ?_)
        refine lv_iload hx hb dX10_lossOf_68 (lv_at hl 2 rfl) ?_
        refine lv_isub hx hb dX10_lossOf_70 ?_
        refine lv_topi (fun z_37 ez_37 => ?_)
        refine lv_i2l hx hb dX10_lossOf_71 rfl ?_
        refine lv_topl (fun z_38 ez_38 => ?_)
        have tz_38 : z_38.toInt = z_37.toInt := by rw [ez_38]; exact wide_t z_37
        have az_38 := min_t z_37
        have bz_38 := max_t z_37
        refine lv_lmul hx hb dX10_lossOf_72 ?_
        refine lv_topl (fun z_39 ez_39 => ?_)
        refine lv_goto (tgt := 77) hx hb dX10_lossOf_73 (by decide) ?_
        refine lv_ladd hx hb dX10_lossOf_77 ?_
        refine lv_topl (fun z_40 ez_40 => ?_)
        refine lv_lstore (lv' := [(5, .long z_40), (7, .int x22_7), (4, .int 999), (0, .ref a), (1, .int v), (2, .int w), (3, .int z)]) hx hb dX10_lossOf_78 hl (by decide) rfl (fun ls hl => ?_)
        obtain ⟨z_41, ez_41⟩ : ∃ y : Int32, y = x22_7 + 1 := ⟨_, rfl⟩
        have tz_41 : z_41.toInt = x22_7.toInt + 1 := add_t ez_41 (show -2147483648 ≤ x22_7.toInt + 1 by omega) (show x22_7.toInt + 1 < 2147483648 by omega)
        refine lv_iinc (v := z_41) (lv' := [(7, .int z_41), (5, .long z_40), (4, .int 999), (0, .ref a), (1, .int v), (2, .int w), (3, .int z)]) hx hb dX10_lossOf_80 hl (k := 1) rfl (by rw [ez_41]; rfl) (by decide) rfl (fun ls hl => ?_)
        refine lv_goto (tgt := 22) hx hb dX10_lossOf_83 (by decide) ?_
        exact ih22 (z_40, z_41) _ _ _ (by show (61 - z_41.toInt).toNat < (61 - x22_7.toInt).toNat; omega) ⟨(by show 0 ≤ z_41.toInt; omega), (by show z_41.toInt ≤ 61; omega), rfl, rfl, lv_sub hl [1, 0, 2, 3, 4, 5, 6] rfl⟩
set_option maxHeartbeats 4000000 in
set_option maxRecDepth 100000 in
theorem t_X10_bestAsk (l : Launch) (D : va_G) (cy : Nat → ClassId) (base : Nat) (τ : Nat → Nat) (G : Gh) (a : Nat) (h_a : τ a = 11) (u : Int32) (y : Int32) (r_y : 0 ≤ y.toInt ∧ y.toInt ≤ 99999) (v : Int32) (r_v : 0 ≤ v.toInt ∧ v.toInt ≤ 5) (w : Int32) (r_w : 0 ≤ w.toInt ∧ w.toInt ≤ 2) : MM l yX10_bestAsk cX10_bestAsk 11 (some .int) 3 0 0 D cy [.ref a, .int u, .int y, .int v, .int w] (PT D cy base τ G) (QT D cy base τ G [90] (fun v g => ∃ r : Int32, v = some (.int r) ∧ (0 ≤ r.toInt ∧ r.toInt ≤ 999))) (RA base) := by
  refine MM.of (by decide) (Nat.le_of_ble_eq_true rfl) ?_
  intro p e s m below meth c C hPT ls hl
  obtain ⟨hx, hb, hr, hml, hown, hts, hlocks, hK, hnm⟩ := C
  obtain ⟨hZ, hT⟩ := hPT
  have hS : va_S (RA base) s.heap s.heap [] := va_S.rf
  have hF : Fr τ [90] G G := Fr.rf
  have hl : lv_has ls 11 [(0, .ref a), (1, .int u), (2, .int y), (3, .int v), (4, .int w)] := hl
  refine lv_iconst (v := 0) hx hb dX10_bestAsk_0 (by decide) ?_
  refine lv_istore (lv' := [(5, .int 0), (0, .ref a), (1, .int u), (2, .int y), (3, .int v), (4, .int w)]) hx hb dX10_bestAsk_1 hl (by decide) rfl (fun ls hl => ?_)
  refine lv_lconst (v := 0) hx hb dX10_bestAsk_3 (by decide) ?_
  refine lv_lstore (lv' := [(6, .long 0), (5, .int 0), (0, .ref a), (1, .int u), (2, .int y), (3, .int v), (4, .int w)]) hx hb dX10_bestAsk_4 hl (by decide) rfl (fun ls hl => ?_)
  refine lv_iconst (v := 0) hx hb dX10_bestAsk_6 (by decide) ?_
  refine lv_istore (lv' := [(8, .int 0), (6, .long 0), (5, .int 0), (0, .ref a), (1, .int u), (2, .int y), (3, .int v), (4, .int w)]) hx hb dX10_bestAsk_7 hl (by decide) rfl (fun ls hl => ?_)
  refine W.loop (σ := Int32 × Int64 × Int32 × Gh) (fun w1 H locs ls => 0 ≤ w1.1.toInt ∧ w1.1.toInt ≤ 999 ∧ 0 ≤ w1.2.2.1.toInt ∧ w1.2.2.1.toInt ≤ 1000 ∧ Fr τ [90] G w1.2.2.2 ∧ TY D cy base τ w1.2.2.2 H ∧ va_S (RA base) s.heap H locs ∧ lv_has ls 11 [(5, .int w1.1), (6, .long w1.2.1), (8, .int w1.2.2.1), (0, .ref a), (1, .int u), (2, .int y), (3, .int v), (4, .int w)]) (fun w1 => (1000 - w1.2.2.1.toInt).toNat) ?_ ((0 : Int32), (0 : Int64), (0 : Int32), G) _ _ _ ⟨(by show 0 ≤ (0 : Int32).toInt; decide), (by show (0 : Int32).toInt ≤ 999; decide), (by show 0 ≤ (0 : Int32).toInt; decide), (by show (0 : Int32).toInt ≤ 1000; decide), hF, hT, hS, lv_sub hl [2, 1, 0, 3, 4, 5, 6, 7] rfl⟩
  intro w1 H locs ls hI ih1
  obtain ⟨x1_5, x1_6, x1_8, G_1⟩ := w1
  obtain ⟨i1_0, i1_1, i1_2, i1_3, hF, hT, hS, hl⟩ := hI
  have i1_0 : 0 ≤ x1_5.toInt := i1_0
  have i1_1 : x1_5.toInt ≤ 999 := i1_1
  have i1_2 : 0 ≤ x1_8.toInt := i1_2
  have i1_3 : x1_8.toInt ≤ 1000 := i1_3
  have hF : Fr τ [90] G G_1 := hF
  have hT : TY D cy base τ G_1 H := hT
  have hS : va_S (RA base) s.heap H locs := hS
  have hl : lv_has ls 11 [(5, .int x1_5), (6, .long x1_6), (8, .int x1_8), (0, .ref a), (1, .int u), (2, .int y), (3, .int v), (4, .int w)] := hl
  refine lv_iload hx hb dX10_bestAsk_9 (lv_at hl 2 rfl) ?_
  refine lv_sipush (v := 999) hx hb dX10_bestAsk_11 (by decide) ?_
  refine lv_icmp_gt (tgt := 71) hx hb dX10_bestAsk_14 (by decide) (fun c_2 => ?_) (fun c_2 => ?_)
  · skip
    have tc_2 : 999 < x1_8.toInt := (fa_lt _ _).mp c_2
    refine lv_iload hx hb dX10_bestAsk_71 (lv_at hl 0 rfl) ?_
    exact ret_i hx hb hr hlocks ⟨⟨hS.1, hS.2.1⟩, G_1, hF, ⟨_, rfl, ⟨(by omega), (by omega)⟩⟩, hT⟩ hS.2.2 (Nat.le_of_ble_eq_true rfl) (Nat.le_of_ble_eq_true rfl) dX10_bestAsk_73
  · skip
    have tc_2 : ¬ 999 < x1_8.toInt := fun h => c_2 ((fa_lt _ _).mpr h)
    refine lv_aload_n hx hb dX10_bestAsk_17 rfl (lv_at hl 3 rfl) ?_
    refine t_getr cf_11 hx hb hts hown hK hT h_a (k := 40) (P := fun q => τ q = 90) rfl (fun _ h9 => h9) fl_X10_105 (fun _ h9 => h9) dX10_bestAsk_18 (fun q_3 eq_3 hq_3 => ?_)
    have eq_3 := (hF.r h_a (by decide) rfl _).symm.trans eq_3
    refine lv_iload_n hx hb dX10_bestAsk_21 rfl (lv_at hl 6 rfl) ?_
    refine lv_iload hx hb dX10_bestAsk_22 (lv_at hl 2 rfl) ?_
    refine t_iast (n := 6) (i := v) (x := x1_8) rfl (by decide) hx hb hK hT hS hq_3 (hT.len hq_3 (by decide)) ⟨by omega, by omega⟩ (show 0 ≤ x1_8.toInt ∧ x1_8.toInt ≤ 999 from ⟨by omega, by omega⟩) dX10_bestAsk_24 (fun H locs G_4 eG_4 hT hS => ?_)
    have hF := hF.wI eG_4 hq_3 rfl
    refine lv_aload_n hx hb dX10_bestAsk_25 rfl (lv_at hl 3 rfl) ?_
    refine lv_iload_n hx hb dX10_bestAsk_26 rfl (lv_at hl 6 rfl) ?_
    refine lv_iload hx hb dX10_bestAsk_27 (lv_at hl 7 rfl) ?_
    refine lv_aload_n hx hb dX10_bestAsk_29 rfl (lv_at hl 3 rfl) ?_
    refine lv_iload_n hx hb dX10_bestAsk_30 rfl (lv_at hl 4 rfl) ?_
    refine lv_iload_n hx hb dX10_bestAsk_31 rfl (lv_at hl 5 rfl) ?_
    refine lv_iload_n hx hb dX10_bestAsk_32 rfl (lv_at hl 6 rfl) ?_
    refine pu_calli (runV (As := [.int u, .int y, .int v]) (rest := [.int w, .int v, .ref a]) ⟨hx, hb, hml, hown, hts⟩ (t_X10_givenBy l D cy base τ G_4 a h_a u y ⟨by omega, by omega⟩ v ⟨by omega, by omega⟩) sV_X10_455 hK (t_recv cf_11 hK hT h_a) ⟨Nat.le_trans hZ hS.1, hT⟩ ⟨Nat.le_of_ble_eq_true rfl, Nat.le_of_ble_eq_true rfl⟩ rfl hl.1 rfl (Nat.le_of_ble_eq_true rfl) dX10_bestAsk_33 ⟨Nat.le_of_ble_eq_true rfl, Nat.le_of_ble_eq_true rfl⟩) (fun r_5 hr_5 => ?_)
    refine pu_calll (runV (As := [.int v, .int w, .int r_5]) (rest := []) ⟨hx, hb, hml, hown, hts⟩ (t_X10_lossOf l D cy base τ G_4 a h_a v ⟨by omega, by omega⟩ w ⟨by omega, by omega⟩ r_5) sV_X10_458 hK (t_recv cf_11 hK hT h_a) ⟨Nat.le_trans hZ hS.1, hT⟩ ⟨Nat.le_of_ble_eq_true rfl, Nat.le_of_ble_eq_true rfl⟩ rfl hl.1 rfl (Nat.le_of_ble_eq_true rfl) dX10_bestAsk_36 ⟨Nat.le_of_ble_eq_true rfl, Nat.le_of_ble_eq_true rfl⟩) (fun r_6 hr_6 => ?_)
    refine lv_lstore (lv' := [(9, .long r_6), (5, .int x1_5), (6, .long x1_6), (8, .int x1_8), (0, .ref a), (1, .int u), (2, .int y), (3, .int v), (4, .int w)]) hx hb dX10_bestAsk_39 hl (by decide) rfl (fun ls hl => ?_)
    refine lv_iload hx hb dX10_bestAsk_41 (lv_at hl 3 rfl) ?_
    refine lv_if_le (tgt := 57) hx hb dX10_bestAsk_43 (by decide) (fun c_7 => ?_) (fun c_7 => ?_)
    · skip
      have tc_7 : x1_8.toInt ≤ 0 := (fa_le _ _).mp c_7
      refine lv_iload hx hb dX10_bestAsk_57 (lv_at hl 3 rfl) ?_
      refine lv_istore (lv' := [(5, .int x1_8), (9, .long r_6), (6, .long x1_6), (8, .int x1_8), (0, .ref a), (1, .int u), (2, .int y), (3, .int v), (4, .int w)]) hx hb dX10_bestAsk_59 hl (by decide) rfl (fun ls hl => ?_)
      refine lv_lload hx hb dX10_bestAsk_61 (lv_at hl 1 rfl) ?_
      refine lv_lstore (lv' := [(6, .long r_6), (5, .int x1_8), (9, .long r_6), (8, .int x1_8), (0, .ref a), (1, .int u), (2, .int y), (3, .int v), (4, .int w)]) hx hb dX10_bestAsk_63 hl (by decide) rfl (fun ls hl => ?_)
      obtain ⟨z_8, ez_8⟩ : ∃ y : Int32, y = x1_8 + 1 := ⟨_, rfl⟩
      have tz_8 : z_8.toInt = x1_8.toInt + 1 := add_t ez_8 (show -2147483648 ≤ x1_8.toInt + 1 by omega) (show x1_8.toInt + 1 < 2147483648 by omega)
      refine lv_iinc (v := z_8) (lv' := [(8, .int z_8), (6, .long r_6), (5, .int x1_8), (9, .long r_6), (0, .ref a), (1, .int u), (2, .int y), (3, .int v), (4, .int w)]) hx hb dX10_bestAsk_65 hl (k := 3) rfl (by rw [ez_8]; rfl) (by decide) rfl (fun ls hl => ?_)
      refine lv_goto (tgt := 9) hx hb dX10_bestAsk_68 (by decide) ?_
      exact ih1 (x1_8, r_6, z_8, G_4) _ _ _ (by show (1000 - z_8.toInt).toNat < (1000 - x1_8.toInt).toNat; omega) ⟨(by show 0 ≤ x1_8.toInt; omega), (by show x1_8.toInt ≤ 999; omega), (by show 0 ≤ z_8.toInt; omega), (by show z_8.toInt ≤ 1000; omega), hF, hT, hS, lv_sub hl [2, 1, 0, 4, 5, 6, 7, 8] rfl⟩
    · skip
      have tc_7 : ¬ x1_8.toInt ≤ 0 := fun h => c_7 ((fa_le _ _).mpr h)
      refine lv_lload hx hb dX10_bestAsk_46 (lv_at hl 0 rfl) ?_
      refine lv_lload hx hb dX10_bestAsk_48 (lv_at hl 2 rfl) ?_
      refine W.lcmp hx hb dX10_bestAsk_50 ?_
      refine lv_topi (fun z_9 ez_9 => ?_)
      have tz_9 : (z_9.toInt < 0 ↔ r_6.toInt < x1_6.toInt) ∧ (0 < z_9.toInt ↔ x1_6.toInt < r_6.toInt) ∧ -1 ≤ z_9.toInt ∧ z_9.toInt ≤ 1 := cmp_t ez_9
      refine lv_if_lt (tgt := 57) hx hb dX10_bestAsk_51 (by decide) (fun c_10 => ?_) (fun c_10 => ?_)
      · skip
        have tc_10 : z_9.toInt < 0 := (fa_lt _ _).mp c_10
        refine lv_iload hx hb dX10_bestAsk_57 (lv_at hl 3 rfl) ?_
        refine lv_istore (lv' := [(5, .int x1_8), (9, .long r_6), (6, .long x1_6), (8, .int x1_8), (0, .ref a), (1, .int u), (2, .int y), (3, .int v), (4, .int w)]) hx hb dX10_bestAsk_59 hl (by decide) rfl (fun ls hl => ?_)
        refine lv_lload hx hb dX10_bestAsk_61 (lv_at hl 1 rfl) ?_
        refine lv_lstore (lv' := [(6, .long r_6), (5, .int x1_8), (9, .long r_6), (8, .int x1_8), (0, .ref a), (1, .int u), (2, .int y), (3, .int v), (4, .int w)]) hx hb dX10_bestAsk_63 hl (by decide) rfl (fun ls hl => ?_)
        obtain ⟨z_11, ez_11⟩ : ∃ y : Int32, y = x1_8 + 1 := ⟨_, rfl⟩
        have tz_11 : z_11.toInt = x1_8.toInt + 1 := add_t ez_11 (show -2147483648 ≤ x1_8.toInt + 1 by omega) (show x1_8.toInt + 1 < 2147483648 by omega)
        refine lv_iinc (v := z_11) (lv' := [(8, .int z_11), (6, .long r_6), (5, .int x1_8), (9, .long r_6), (0, .ref a), (1, .int u), (2, .int y), (3, .int v), (4, .int w)]) hx hb dX10_bestAsk_65 hl (k := 3) rfl (by rw [ez_11]; rfl) (by decide) rfl (fun ls hl => ?_)
        refine lv_goto (tgt := 9) hx hb dX10_bestAsk_68 (by decide) ?_
        exact ih1 (x1_8, r_6, z_11, G_4) _ _ _ (by show (1000 - z_11.toInt).toNat < (1000 - x1_8.toInt).toNat; omega) ⟨(by show 0 ≤ x1_8.toInt; omega), (by show x1_8.toInt ≤ 999; omega), (by show 0 ≤ z_11.toInt; omega), (by show z_11.toInt ≤ 1000; omega), hF, hT, hS, lv_sub hl [2, 1, 0, 4, 5, 6, 7, 8] rfl⟩
      · skip
        have tc_10 : ¬ z_9.toInt < 0 := fun h => c_10 ((fa_lt _ _).mpr h)
        refine lv_goto (tgt := 65) hx hb dX10_bestAsk_54 (by decide) ?_
        obtain ⟨z_12, ez_12⟩ : ∃ y : Int32, y = x1_8 + 1 := ⟨_, rfl⟩
        have tz_12 : z_12.toInt = x1_8.toInt + 1 := add_t ez_12 (show -2147483648 ≤ x1_8.toInt + 1 by omega) (show x1_8.toInt + 1 < 2147483648 by omega)
        refine lv_iinc (v := z_12) (lv' := [(8, .int z_12), (9, .long r_6), (5, .int x1_5), (6, .long x1_6), (0, .ref a), (1, .int u), (2, .int y), (3, .int v), (4, .int w)]) hx hb dX10_bestAsk_65 hl (k := 3) rfl (by rw [ez_12]; rfl) (by decide) rfl (fun ls hl => ?_)
        refine lv_goto (tgt := 9) hx hb dX10_bestAsk_68 (by decide) ?_
        exact ih1 (x1_5, x1_6, z_12, G_4) _ _ _ (by show (1000 - z_12.toInt).toNat < (1000 - x1_8.toInt).toNat; omega) ⟨(by show 0 ≤ x1_5.toInt; omega), (by show x1_5.toInt ≤ 999; omega), (by show 0 ≤ z_12.toInt; omega), (by show z_12.toInt ≤ 1000; omega), hF, hT, hS, lv_sub hl [2, 3, 0, 4, 5, 6, 7, 8] rfl⟩
set_option maxHeartbeats 4000000 in
set_option maxRecDepth 100000 in
theorem t_X10_asks_ (l : Launch) (D : va_G) (cy : Nat → ClassId) (base : Nat) (τ : Nat → Nat) (G : Gh) (a : Nat) (h_a : τ a = 11) (v0 : Int32) (v1 : Int32) (v2 : Int32) (v3 : Int32) (v4 : Int32) : MM l yX10_asks_ cX10_asks_ 7 (some .int) 4 0 0 D cy [.ref a, .int v0, .int v1, .int v2, .int v3, .int v4] (PT D cy base τ G) (QT D cy base τ G [11, 79, 90] (fun v g => ∃ r : Int32, v = some (.int r) ∧ (True))) (RA base) := by
  refine MM.of (by decide) (Nat.le_of_ble_eq_true rfl) ?_
  intro p e s m below meth c C hPT ls hl
  obtain ⟨hx, hb, hr, hml, hown, hts, hlocks, hK, hnm⟩ := C
  obtain ⟨hZ, hT⟩ := hPT
  have hS : va_S (RA base) s.heap s.heap [] := va_S.rf
  have hF : Fr τ [11, 79, 90] G G := Fr.rf
  have hl : lv_has ls 7 [(0, .ref a), (1, .int v0), (2, .int v1), (3, .int v2), (4, .int v3), (5, .int v4)] := hl
  refine lv_aload_n hx hb dX10_asks__0 rfl (lv_at hl 0 rfl) ?_
  refine lv_iconst (v := 0) hx hb dX10_asks__1 (by decide) ?_
  refine t_puti (x := 0) cf_11 hx hb hts hown hK hT hS h_a (k := 0) rfl trivial fl_X10_111 (fun _ h9 => h9) rfl rfl rfl dX10_asks__2 (fun H locs G_1 eG_1 hT hS => ?_)
  have hF := hF.wI eG_1 h_a rfl
  refine lv_aload_n hx hb dX10_asks__5 rfl (lv_at hl 0 rfl) ?_
  refine lv_iload hx hb dX10_asks__6 (lv_at hl 5 rfl) ?_
  refine pu_calli (runV (As := [.int v4]) (rest := []) ⟨hx, hb, hml, hown, hts⟩ (t_X10_isThing l D cy base τ G_1 a h_a v4) sV_X10_350 hK (t_recv cf_11 hK hT h_a) ⟨Nat.le_trans hZ hS.1, hT⟩ ⟨Nat.le_of_ble_eq_true rfl, Nat.le_of_ble_eq_true rfl⟩ rfl hl.1 rfl (Nat.le_of_ble_eq_true rfl) dX10_asks__8 ⟨Nat.le_of_ble_eq_true rfl, Nat.le_of_ble_eq_true rfl⟩) (fun r_2 hr_2 => ?_)
  have hr_2_c := hr_2
  rcases hr_2_c with hr_2_0 | hr_2_1
  · skip
    obtain ⟨er_2, hr_2_0_f0, hr_2_0_f1⟩ := hr_2_0
    have hr_2_0_f0 : 0 ≤ v4.toInt := hr_2_0_f0
    have hr_2_0_f1 : v4.toInt ≤ 2 := hr_2_0_f1
    subst er_2
    refine W.eq (g2 := F0 m 11 ls [.int 1]) rfl ?_
    refine lv_if_ne (tgt := 17) hx hb dX10_asks__11 (by decide) (fun _ => ?_) (fun c_3 => absurd c_3 (by decide))
    refine lv_aload_n hx hb dX10_asks__17 rfl (lv_at hl 0 rfl) ?_
    refine lv_iload_n hx hb dX10_asks__18 rfl (lv_at hl 1 rfl) ?_
    refine lv_iload_n hx hb dX10_asks__19 rfl (lv_at hl 2 rfl) ?_
    refine lv_iload_n hx hb dX10_asks__20 rfl (lv_at hl 3 rfl) ?_
    refine lv_iload hx hb dX10_asks__21 (lv_at hl 4 rfl) ?_
    refine t_calli (runV (As := [.int v0, .int v1, .int v2, .int v3]) (rest := []) ⟨hx, hb, hml, hown, hts⟩ (t_X10_whyNot l D cy base τ G_1 a h_a v0 v1 v2 v3) sV_X10_451 hK (t_recv cf_11 hK hT h_a) ⟨Nat.le_trans hZ hS.1, hT⟩ ⟨Nat.le_of_ble_eq_true rfl, Nat.le_of_ble_eq_true rfl⟩ rfl hl.1 rfl (Nat.le_of_ble_eq_true rfl) dX10_asks__23 ⟨Nat.le_of_ble_eq_true rfl, Nat.le_of_ble_eq_true rfl⟩) hS (fun r_4 G_4 H locs hF_4 hr_4 hT hS => ?_)
    have hF := hF.tr hF_4 rfl
    have hr_4_c := hr_4
    rcases hr_4_c with hr_4_0 | hr_4_1 | hr_4_2
    · skip
      obtain ⟨er_4, hr_4_0_f0, hr_4_0_f1, hr_4_0_f2, hr_4_0_f3, hr_4_0_f4, hr_4_0_f5, hr_4_0_f6, hr_4_0_f7⟩ := hr_4_0
      have hr_4_0_f0 : 0 ≤ v0.toInt := hr_4_0_f0
      have hr_4_0_f1 : v0.toInt ≤ 3 := hr_4_0_f1
      have hr_4_0_f2 : 0 ≤ v1.toInt := hr_4_0_f2
      have hr_4_0_f3 : v1.toInt ≤ 1 := hr_4_0_f3
      have hr_4_0_f4 : 0 ≤ v2.toInt := hr_4_0_f4
      have hr_4_0_f5 : v2.toInt ≤ 99999 := hr_4_0_f5
      have hr_4_0_f6 : 0 ≤ v3.toInt := hr_4_0_f6
      have hr_4_0_f7 : v3.toInt ≤ 5 := hr_4_0_f7
      subst er_4
      refine W.eq (g2 := F0 m 26 ls [.int 0]) rfl ?_
      refine lv_istore (lv' := [(6, .int 0), (0, .ref a), (1, .int v0), (2, .int v1), (3, .int v2), (4, .int v3), (5, .int v4)]) hx hb dX10_asks__26 hl (by decide) rfl (fun ls hl => ?_)
      refine lv_iload hx hb dX10_asks__28 (lv_at hl 0 rfl) ?_
      refine lv_if_eq (tgt := 36) hx hb dX10_asks__30 (by decide) (fun _ => ?_) (fun c_5 => absurd (by decide) c_5)
      refine lv_aload_n hx hb dX10_asks__36 rfl (lv_at hl 1 rfl) ?_
      refine lv_iload hx hb dX10_asks__37 (lv_at hl 5 rfl) ?_
      refine t_callv (runV (As := [.int v3]) (rest := []) ⟨hx, hb, hml, hown, hts⟩ (t_X10_splits l D cy base τ G_4 a h_a v3 ⟨by omega, by omega⟩) sV_X10_302 hK (t_recv cf_11 hK hT h_a) ⟨Nat.le_trans hZ hS.1, hT⟩ ⟨Nat.le_of_ble_eq_true rfl, Nat.le_of_ble_eq_true rfl⟩ rfl hl.1 rfl (Nat.le_of_ble_eq_true rfl) dX10_asks__39 ⟨Nat.le_of_ble_eq_true rfl, Nat.le_of_ble_eq_true rfl⟩) hS (fun G_6 H locs hF_6 hr_6 hT hS => ?_)
      have hF := hF.tr hF_6 rfl
      refine lv_aload_n hx hb dX10_asks__42 rfl (lv_at hl 1 rfl) ?_
      refine lv_iload_n hx hb dX10_asks__43 rfl (lv_at hl 3 rfl) ?_
      refine lv_iload_n hx hb dX10_asks__44 rfl (lv_at hl 4 rfl) ?_
      refine lv_iload hx hb dX10_asks__45 (lv_at hl 5 rfl) ?_
      refine lv_iload hx hb dX10_asks__47 (lv_at hl 6 rfl) ?_
      refine t_calli (runV (As := [.int v1, .int v2, .int v3, .int v4]) (rest := []) ⟨hx, hb, hml, hown, hts⟩ (t_X10_bestAsk l D cy base τ G_6 a h_a v1 v2 ⟨by omega, by omega⟩ v3 ⟨by omega, by omega⟩ v4 ⟨by omega, by omega⟩) sV_X10_461 hK (t_recv cf_11 hK hT h_a) ⟨Nat.le_trans hZ hS.1, hT⟩ ⟨Nat.le_of_ble_eq_true rfl, Nat.le_of_ble_eq_true rfl⟩ rfl hl.1 rfl (Nat.le_of_ble_eq_true rfl) dX10_asks__49 ⟨Nat.le_of_ble_eq_true rfl, Nat.le_of_ble_eq_true rfl⟩) hS (fun r_7 G_7 H locs hF_7 hr_7 hT hS => ?_)
      have hF := hF.tr hF_7 rfl
      obtain ⟨hr_7_lo, hr_7_hi⟩ := hr_7
      have hr_7_lo : 0 ≤ r_7.toInt := hr_7_lo
      have hr_7_hi : r_7.toInt ≤ 999 := hr_7_hi
      exact ret_i hx hb hr hlocks ⟨⟨hS.1, hS.2.1⟩, G_7, hF, ⟨_, rfl, trivial⟩, hT⟩ hS.2.2 (Nat.le_of_ble_eq_true rfl) (Nat.le_of_ble_eq_true rfl) dX10_asks__52
    · skip
      have er_4 := hr_4_1
      subst er_4
      refine W.eq (g2 := F0 m 26 ls [.int (-2)]) rfl ?_
      refine lv_istore (lv' := [(6, .int (-2)), (0, .ref a), (1, .int v0), (2, .int v1), (3, .int v2), (4, .int v3), (5, .int v4)]) hx hb dX10_asks__26 hl (by decide) rfl (fun ls hl => ?_)
      refine lv_iload hx hb dX10_asks__28 (lv_at hl 0 rfl) ?_
      refine lv_if_eq (tgt := 36) hx hb dX10_asks__30 (by decide) (fun c_8 => absurd c_8 (by decide)) (fun _ => ?_)
      refine lv_iload hx hb dX10_asks__33 (lv_at hl 0 rfl) ?_
      exact ret_i hx hb hr hlocks ⟨⟨hS.1, hS.2.1⟩, G_4, hF, ⟨_, rfl, trivial⟩, hT⟩ hS.2.2 (Nat.le_of_ble_eq_true rfl) (Nat.le_of_ble_eq_true rfl) dX10_asks__35
    · skip
      have er_4 := hr_4_2
      subst er_4
      refine W.eq (g2 := F0 m 26 ls [.int (-6)]) rfl ?_
      refine lv_istore (lv' := [(6, .int (-6)), (0, .ref a), (1, .int v0), (2, .int v1), (3, .int v2), (4, .int v3), (5, .int v4)]) hx hb dX10_asks__26 hl (by decide) rfl (fun ls hl => ?_)
      refine lv_iload hx hb dX10_asks__28 (lv_at hl 0 rfl) ?_
      refine lv_if_eq (tgt := 36) hx hb dX10_asks__30 (by decide) (fun c_9 => absurd c_9 (by decide)) (fun _ => ?_)
      refine lv_iload hx hb dX10_asks__33 (lv_at hl 0 rfl) ?_
      exact ret_i hx hb hr hlocks ⟨⟨hS.1, hS.2.1⟩, G_4, hF, ⟨_, rfl, trivial⟩, hT⟩ hS.2.2 (Nat.le_of_ble_eq_true rfl) (Nat.le_of_ble_eq_true rfl) dX10_asks__35
  · skip
    have er_2 := hr_2_1
    subst er_2
    refine W.eq (g2 := F0 m 11 ls [.int 0]) rfl ?_
    refine lv_if_ne (tgt := 17) hx hb dX10_asks__11 (by decide) (fun c_10 => absurd rfl c_10) (fun _ => ?_)
    refine lv_bipush (v := (-2)) hx hb dX10_asks__14 (by decide) ?_
    exact ret_i hx hb hr hlocks ⟨⟨hS.1, hS.2.1⟩, G_1, hF, ⟨_, rfl, trivial⟩, hT⟩ hS.2.2 (Nat.le_of_ble_eq_true rfl) (Nat.le_of_ble_eq_true rfl) dX10_asks__16
set_option maxHeartbeats 4000000 in
set_option maxRecDepth 100000 in
theorem t_X10_pays (l : Launch) (D : va_G) (cy : Nat → ClassId) (base : Nat) (τ : Nat → Nat) (G : Gh) (a : Nat) (h_a : τ a = 11) (v0 : Int32) (v1 : Int32) (v2 : Int32) (v3 : Int32) (v4 : Int32) : MM l yX10_pays cX10_pays 9 (some .long) 4 0 0 D cy [.ref a, .int v0, .int v1, .int v2, .int v3, .int v4] (PT D cy base τ G) (QT D cy base τ G [11, 79, 90] (fun v g => ∃ r : Int64, v = some (.long r) ∧ (True))) (RA base) := by
  refine MM.of (by decide) (Nat.le_of_ble_eq_true rfl) ?_
  intro p e s m below meth c C hPT ls hl
  obtain ⟨hx, hb, hr, hml, hown, hts, hlocks, hK, hnm⟩ := C
  obtain ⟨hZ, hT⟩ := hPT
  have hS : va_S (RA base) s.heap s.heap [] := va_S.rf
  have hF : Fr τ [11, 79, 90] G G := Fr.rf
  have hl : lv_has ls 9 [(0, .ref a), (1, .int v0), (2, .int v1), (3, .int v2), (4, .int v3), (5, .int v4)] := hl
  refine lv_aload_n hx hb dX10_pays_0 rfl (lv_at hl 0 rfl) ?_
  refine lv_iconst (v := 0) hx hb dX10_pays_1 (by decide) ?_
  refine t_puti (x := 0) cf_11 hx hb hts hown hK hT hS h_a (k := 0) rfl trivial fl_X10_111 (fun _ h9 => h9) rfl rfl rfl dX10_pays_2 (fun H locs G_1 eG_1 hT hS => ?_)
  have hF := hF.wI eG_1 h_a rfl
  refine lv_aload_n hx hb dX10_pays_5 rfl (lv_at hl 0 rfl) ?_
  refine lv_iload hx hb dX10_pays_6 (lv_at hl 5 rfl) ?_
  refine pu_calli (runV (As := [.int v4]) (rest := []) ⟨hx, hb, hml, hown, hts⟩ (t_X10_isThing l D cy base τ G_1 a h_a v4) sV_X10_350 hK (t_recv cf_11 hK hT h_a) ⟨Nat.le_trans hZ hS.1, hT⟩ ⟨Nat.le_of_ble_eq_true rfl, Nat.le_of_ble_eq_true rfl⟩ rfl hl.1 rfl (Nat.le_of_ble_eq_true rfl) dX10_pays_8 ⟨Nat.le_of_ble_eq_true rfl, Nat.le_of_ble_eq_true rfl⟩) (fun r_2 hr_2 => ?_)
  have hr_2_c := hr_2
  rcases hr_2_c with hr_2_0 | hr_2_1
  · skip
    obtain ⟨er_2, hr_2_0_f0, hr_2_0_f1⟩ := hr_2_0
    have hr_2_0_f0 : 0 ≤ v4.toInt := hr_2_0_f0
    have hr_2_0_f1 : v4.toInt ≤ 2 := hr_2_0_f1
    subst er_2
    refine W.eq (g2 := F0 m 11 ls [.int 1]) rfl ?_
    refine lv_if_ne (tgt := 18) hx hb dX10_pays_11 (by decide) (fun _ => ?_) (fun c_3 => absurd c_3 (by decide))
    refine lv_aload_n hx hb dX10_pays_18 rfl (lv_at hl 0 rfl) ?_
    refine lv_iload_n hx hb dX10_pays_19 rfl (lv_at hl 1 rfl) ?_
    refine lv_iload_n hx hb dX10_pays_20 rfl (lv_at hl 2 rfl) ?_
    refine lv_iload_n hx hb dX10_pays_21 rfl (lv_at hl 3 rfl) ?_
    refine lv_iload hx hb dX10_pays_22 (lv_at hl 4 rfl) ?_
    refine t_calli (runV (As := [.int v0, .int v1, .int v2, .int v3]) (rest := []) ⟨hx, hb, hml, hown, hts⟩ (t_X10_whyNot l D cy base τ G_1 a h_a v0 v1 v2 v3) sV_X10_451 hK (t_recv cf_11 hK hT h_a) ⟨Nat.le_trans hZ hS.1, hT⟩ ⟨Nat.le_of_ble_eq_true rfl, Nat.le_of_ble_eq_true rfl⟩ rfl hl.1 rfl (Nat.le_of_ble_eq_true rfl) dX10_pays_24 ⟨Nat.le_of_ble_eq_true rfl, Nat.le_of_ble_eq_true rfl⟩) hS (fun r_4 G_4 H locs hF_4 hr_4 hT hS => ?_)
    have hF := hF.tr hF_4 rfl
    have hr_4_c := hr_4
    rcases hr_4_c with hr_4_0 | hr_4_1 | hr_4_2
    · skip
      obtain ⟨er_4, hr_4_0_f0, hr_4_0_f1, hr_4_0_f2, hr_4_0_f3, hr_4_0_f4, hr_4_0_f5, hr_4_0_f6, hr_4_0_f7⟩ := hr_4_0
      have hr_4_0_f0 : 0 ≤ v0.toInt := hr_4_0_f0
      have hr_4_0_f1 : v0.toInt ≤ 3 := hr_4_0_f1
      have hr_4_0_f2 : 0 ≤ v1.toInt := hr_4_0_f2
      have hr_4_0_f3 : v1.toInt ≤ 1 := hr_4_0_f3
      have hr_4_0_f4 : 0 ≤ v2.toInt := hr_4_0_f4
      have hr_4_0_f5 : v2.toInt ≤ 99999 := hr_4_0_f5
      have hr_4_0_f6 : 0 ≤ v3.toInt := hr_4_0_f6
      have hr_4_0_f7 : v3.toInt ≤ 5 := hr_4_0_f7
      subst er_4
      refine W.eq (g2 := F0 m 27 ls [.int 0]) rfl ?_
      refine lv_istore (lv' := [(6, .int 0), (0, .ref a), (1, .int v0), (2, .int v1), (3, .int v2), (4, .int v3), (5, .int v4)]) hx hb dX10_pays_27 hl (by decide) rfl (fun ls hl => ?_)
      refine lv_iload hx hb dX10_pays_29 (lv_at hl 0 rfl) ?_
      refine lv_if_eq (tgt := 38) hx hb dX10_pays_31 (by decide) (fun _ => ?_) (fun c_5 => absurd (by decide) c_5)
      refine lv_aload_n hx hb dX10_pays_38 rfl (lv_at hl 1 rfl) ?_
      refine lv_iload hx hb dX10_pays_39 (lv_at hl 5 rfl) ?_
      refine t_callv (runV (As := [.int v3]) (rest := []) ⟨hx, hb, hml, hown, hts⟩ (t_X10_splits l D cy base τ G_4 a h_a v3 ⟨by omega, by omega⟩) sV_X10_302 hK (t_recv cf_11 hK hT h_a) ⟨Nat.le_trans hZ hS.1, hT⟩ ⟨Nat.le_of_ble_eq_true rfl, Nat.le_of_ble_eq_true rfl⟩ rfl hl.1 rfl (Nat.le_of_ble_eq_true rfl) dX10_pays_41 ⟨Nat.le_of_ble_eq_true rfl, Nat.le_of_ble_eq_true rfl⟩) hS (fun G_6 H locs hF_6 hr_6 hT hS => ?_)
      have hF := hF.tr hF_6 rfl
      refine lv_aload_n hx hb dX10_pays_44 rfl (lv_at hl 1 rfl) ?_
      refine lv_iload hx hb dX10_pays_45 (lv_at hl 5 rfl) ?_
      refine lv_iload hx hb dX10_pays_47 (lv_at hl 6 rfl) ?_
      refine lv_aload_n hx hb dX10_pays_49 rfl (lv_at hl 1 rfl) ?_
      refine lv_iload_n hx hb dX10_pays_50 rfl (lv_at hl 3 rfl) ?_
      refine lv_iload_n hx hb dX10_pays_51 rfl (lv_at hl 4 rfl) ?_
      refine lv_iload hx hb dX10_pays_52 (lv_at hl 5 rfl) ?_
      refine pu_calli (runV (As := [.int v1, .int v2, .int v3]) (rest := [.int v4, .int v3, .ref a]) ⟨hx, hb, hml, hown, hts⟩ (t_X10_givenBy l D cy base τ G_6 a h_a v1 v2 ⟨by omega, by omega⟩ v3 ⟨by omega, by omega⟩) sV_X10_455 hK (t_recv cf_11 hK hT h_a) ⟨Nat.le_trans hZ hS.1, hT⟩ ⟨Nat.le_of_ble_eq_true rfl, Nat.le_of_ble_eq_true rfl⟩ rfl hl.1 rfl (Nat.le_of_ble_eq_true rfl) dX10_pays_54 ⟨Nat.le_of_ble_eq_true rfl, Nat.le_of_ble_eq_true rfl⟩) (fun r_7 hr_7 => ?_)
      refine pu_calll (runV (As := [.int v3, .int v4, .int r_7]) (rest := []) ⟨hx, hb, hml, hown, hts⟩ (t_X10_lossOf l D cy base τ G_6 a h_a v3 ⟨by omega, by omega⟩ v4 ⟨by omega, by omega⟩ r_7) sV_X10_458 hK (t_recv cf_11 hK hT h_a) ⟨Nat.le_trans hZ hS.1, hT⟩ ⟨Nat.le_of_ble_eq_true rfl, Nat.le_of_ble_eq_true rfl⟩ rfl hl.1 rfl (Nat.le_of_ble_eq_true rfl) dX10_pays_57 ⟨Nat.le_of_ble_eq_true rfl, Nat.le_of_ble_eq_true rfl⟩) (fun r_8 hr_8 => ?_)
      refine lv_lstore (lv' := [(7, .long r_8), (6, .int 0), (0, .ref a), (1, .int v0), (2, .int v1), (3, .int v2), (4, .int v3), (5, .int v4)]) hx hb dX10_pays_60 hl (by decide) rfl (fun ls hl => ?_)
      refine lv_aload_n hx hb dX10_pays_62 rfl (lv_at hl 2 rfl) ?_
      refine t_getr cf_11 hx hb hts hown hK hT h_a (k := 40) (P := fun q => τ q = 90) rfl (fun _ h9 => h9) fl_X10_105 (fun _ h9 => h9) dX10_pays_63 (fun q_9 eq_9 hq_9 => ?_)
      have eq_9 := (hF.r h_a (by decide) rfl _).symm.trans eq_9
      refine lv_iload hx hb dX10_pays_66 (lv_at hl 6 rfl) ?_
      refine lv_aload_n hx hb dX10_pays_68 rfl (lv_at hl 2 rfl) ?_
      refine lv_iload_n hx hb dX10_pays_69 rfl (lv_at hl 4 rfl) ?_
      refine lv_iload_n hx hb dX10_pays_70 rfl (lv_at hl 5 rfl) ?_
      refine lv_iload hx hb dX10_pays_71 (lv_at hl 6 rfl) ?_
      refine lv_iload hx hb dX10_pays_73 (lv_at hl 7 rfl) ?_
      refine t_calli (runV (As := [.int v1, .int v2, .int v3, .int v4]) (rest := [.int v3, .ref q_9]) ⟨hx, hb, hml, hown, hts⟩ (t_X10_bestAsk l D cy base τ G_6 a h_a v1 v2 ⟨by omega, by omega⟩ v3 ⟨by omega, by omega⟩ v4 ⟨by omega, by omega⟩) sV_X10_461 hK (t_recv cf_11 hK hT h_a) ⟨Nat.le_trans hZ hS.1, hT⟩ ⟨Nat.le_of_ble_eq_true rfl, Nat.le_of_ble_eq_true rfl⟩ rfl hl.1 rfl (Nat.le_of_ble_eq_true rfl) dX10_pays_75 ⟨Nat.le_of_ble_eq_true rfl, Nat.le_of_ble_eq_true rfl⟩) hS (fun r_10 G_10 H locs hF_10 hr_10 hT hS => ?_)
      have hF := hF.tr hF_10 rfl
      obtain ⟨hr_10_lo, hr_10_hi⟩ := hr_10
      have hr_10_lo : 0 ≤ r_10.toInt := hr_10_lo
      have hr_10_hi : r_10.toInt ≤ 999 := hr_10_hi
      refine t_iast (n := 6) (i := v3) (x := r_10) rfl (by decide) hx hb hK hT hS hq_9 (hT.len hq_9 (by decide)) ⟨by omega, by omega⟩ (show 0 ≤ r_10.toInt ∧ r_10.toInt ≤ 999 from ⟨by omega, by omega⟩) dX10_pays_78 (fun H locs G_11 eG_11 hT hS => ?_)
      have hF := hF.wI eG_11 hq_9 rfl
      refine lv_lload hx hb dX10_pays_79 (lv_at hl 0 rfl) ?_
      refine lv_aload_n hx hb dX10_pays_81 rfl (lv_at hl 2 rfl) ?_
      refine lv_iload hx hb dX10_pays_82 (lv_at hl 6 rfl) ?_
      refine lv_iload hx hb dX10_pays_84 (lv_at hl 7 rfl) ?_
      refine lv_aload_n hx hb dX10_pays_86 rfl (lv_at hl 2 rfl) ?_
      refine lv_iload_n hx hb dX10_pays_87 rfl (lv_at hl 4 rfl) ?_
      refine lv_iload_n hx hb dX10_pays_88 rfl (lv_at hl 5 rfl) ?_
      refine lv_iload hx hb dX10_pays_89 (lv_at hl 6 rfl) ?_
      refine pu_calli (runV (As := [.int v1, .int v2, .int v3]) (rest := [.int v4, .int v3, .ref a, .long r_8]) ⟨hx, hb, hml, hown, hts⟩ (t_X10_givenBy l D cy base τ G_11 a h_a v1 v2 ⟨by omega, by omega⟩ v3 ⟨by omega, by omega⟩) sV_X10_455 hK (t_recv cf_11 hK hT h_a) ⟨Nat.le_trans hZ hS.1, hT⟩ ⟨Nat.le_of_ble_eq_true rfl, Nat.le_of_ble_eq_true rfl⟩ rfl hl.1 rfl (Nat.le_of_ble_eq_true rfl) dX10_pays_91 ⟨Nat.le_of_ble_eq_true rfl, Nat.le_of_ble_eq_true rfl⟩) (fun r_12 hr_12 => ?_)
      refine pu_calll (runV (As := [.int v3, .int v4, .int r_12]) (rest := [.long r_8]) ⟨hx, hb, hml, hown, hts⟩ (t_X10_lossOf l D cy base τ G_11 a h_a v3 ⟨by omega, by omega⟩ v4 ⟨by omega, by omega⟩ r_12) sV_X10_458 hK (t_recv cf_11 hK hT h_a) ⟨Nat.le_trans hZ hS.1, hT⟩ ⟨Nat.le_of_ble_eq_true rfl, Nat.le_of_ble_eq_true rfl⟩ rfl hl.1 rfl (Nat.le_of_ble_eq_true rfl) dX10_pays_94 ⟨Nat.le_of_ble_eq_true rfl, Nat.le_of_ble_eq_true rfl⟩) (fun r_13 hr_13 => ?_)
      refine lv_lsub hx hb dX10_pays_97 ?_
      refine lv_topl (fun z_14 ez_14 => ?_)
      refine lv_ldc2 (v := 1000000000) hx hb hown (hts _ kl_X10_345) dX10_pays_98 ?_
      refine lv_ldiv hx hb dX10_pays_101 (by decide) ?_
      refine lv_topl (fun z_15 ez_15 => ?_)
      exact ret_l hx hb hr hlocks ⟨⟨hS.1, hS.2.1⟩, G_11, hF, ⟨_, rfl, trivial⟩, hT⟩ hS.2.2 (Nat.le_of_ble_eq_true rfl) (Nat.le_of_ble_eq_true rfl) dX10_pays_102
    · skip
      have er_4 := hr_4_1
      subst er_4
      refine W.eq (g2 := F0 m 27 ls [.int (-2)]) rfl ?_
      refine lv_istore (lv' := [(6, .int (-2)), (0, .ref a), (1, .int v0), (2, .int v1), (3, .int v2), (4, .int v3), (5, .int v4)]) hx hb dX10_pays_27 hl (by decide) rfl (fun ls hl => ?_)
      refine lv_iload hx hb dX10_pays_29 (lv_at hl 0 rfl) ?_
      refine lv_if_eq (tgt := 38) hx hb dX10_pays_31 (by decide) (fun c_16 => absurd c_16 (by decide)) (fun _ => ?_)
      refine lv_iload hx hb dX10_pays_34 (lv_at hl 0 rfl) ?_
      refine lv_i2l hx hb dX10_pays_36 rfl ?_
      refine lv_topl (fun z_17 ez_17 => ?_)
      have ez_17 : z_17 = (-2) := ez_17.trans (by decide)
      subst ez_17
      exact ret_l hx hb hr hlocks ⟨⟨hS.1, hS.2.1⟩, G_4, hF, ⟨_, rfl, trivial⟩, hT⟩ hS.2.2 (Nat.le_of_ble_eq_true rfl) (Nat.le_of_ble_eq_true rfl) dX10_pays_37
    · skip
      have er_4 := hr_4_2
      subst er_4
      refine W.eq (g2 := F0 m 27 ls [.int (-6)]) rfl ?_
      refine lv_istore (lv' := [(6, .int (-6)), (0, .ref a), (1, .int v0), (2, .int v1), (3, .int v2), (4, .int v3), (5, .int v4)]) hx hb dX10_pays_27 hl (by decide) rfl (fun ls hl => ?_)
      refine lv_iload hx hb dX10_pays_29 (lv_at hl 0 rfl) ?_
      refine lv_if_eq (tgt := 38) hx hb dX10_pays_31 (by decide) (fun c_18 => absurd c_18 (by decide)) (fun _ => ?_)
      refine lv_iload hx hb dX10_pays_34 (lv_at hl 0 rfl) ?_
      refine lv_i2l hx hb dX10_pays_36 rfl ?_
      refine lv_topl (fun z_19 ez_19 => ?_)
      have ez_19 : z_19 = (-6) := ez_19.trans (by decide)
      subst ez_19
      exact ret_l hx hb hr hlocks ⟨⟨hS.1, hS.2.1⟩, G_4, hF, ⟨_, rfl, trivial⟩, hT⟩ hS.2.2 (Nat.le_of_ble_eq_true rfl) (Nat.le_of_ble_eq_true rfl) dX10_pays_37
  · skip
    have er_2 := hr_2_1
    subst er_2
    refine W.eq (g2 := F0 m 11 ls [.int 0]) rfl ?_
    refine lv_if_ne (tgt := 18) hx hb dX10_pays_11 (by decide) (fun c_20 => absurd rfl c_20) (fun _ => ?_)
    refine lv_ldc2 (v := (-2)) hx hb hown (hts _ kl_X10_300) dX10_pays_14 ?_
    exact ret_l hx hb hr hlocks ⟨⟨hS.1, hS.2.1⟩, G_1, hF, ⟨_, rfl, trivial⟩, hT⟩ hS.2.2 (Nat.le_of_ble_eq_true rfl) (Nat.le_of_ble_eq_true rfl) dX10_pays_17
set_option maxHeartbeats 4000000 in
set_option maxRecDepth 100000 in
theorem t_X10_standing (l : Launch) (D : va_G) (cy : Nat → ClassId) (base : Nat) (τ : Nat → Nat) (G : Gh) (a : Nat) (h_a : τ a = 11) (v : Int32) (r_v : 0 ≤ v.toInt ∧ v.toInt ≤ 5) (w : Int32) (r_w : 0 ≤ w.toInt ∧ w.toInt ≤ 2) (y : Int32) (z : Int32) : MM l yX10_standing cX10_standing 5 (some .long) 3 0 0 D cy [.ref a, .int v, .int w, .int y, .int z] (PT D cy base τ G) (PuL (fun r => True)) noF := by
  refine MM.of (by decide) (Nat.le_of_ble_eq_true rfl) ?_
  intro p e s m below meth c C hPT ls hl
  obtain ⟨hx, hb, hr, hml, hown, hts, hlocks, hK, hnm⟩ := C
  obtain ⟨hZ, hT⟩ := hPT
  have hS : va_S (RA base) s.heap s.heap [] := va_S.rf
  have hl : lv_has ls 5 [(0, .ref a), (1, .int v), (2, .int w), (3, .int y), (4, .int z)] := hl
  refine lv_aload_n hx hb dX10_standing_0 rfl (lv_at hl 0 rfl) ?_
  refine lv_iload_n hx hb dX10_standing_1 rfl (lv_at hl 1 rfl) ?_
  refine lv_iload_n hx hb dX10_standing_2 rfl (lv_at hl 2 rfl) ?_
  refine lv_iload hx hb dX10_standing_3 (lv_at hl 4 rfl) ?_
  refine pu_calll (runV (As := [.int v, .int w, .int z]) (rest := []) ⟨hx, hb, hml, hown, hts⟩ (t_X10_costOf l D cy base τ G a h_a v ⟨by omega, by omega⟩ w ⟨by omega, by omega⟩ z) sV_X10_378 hK (t_recv cf_11 hK hT h_a) ⟨Nat.le_trans hZ hS.1, hT⟩ ⟨Nat.le_of_ble_eq_true rfl, Nat.le_of_ble_eq_true rfl⟩ rfl hl.1 rfl (Nat.le_of_ble_eq_true rfl) dX10_standing_5 ⟨Nat.le_of_ble_eq_true rfl, Nat.le_of_ble_eq_true rfl⟩) (fun r_1 hr_1 => ?_)
  refine lv_ldc2 (v := 1000000000) hx hb hown (hts _ kl_X10_345) dX10_standing_8 ?_
  refine lv_ldiv hx hb dX10_standing_11 (by decide) ?_
  refine lv_topl (fun z_2 ez_2 => ?_)
  refine lv_ldc2 (v := 1000) hx hb hown (hts _ kl_X10_343) dX10_standing_12 ?_
  refine lv_aload_n hx hb dX10_standing_15 rfl (lv_at hl 0 rfl) ?_
  refine lv_iload_n hx hb dX10_standing_16 rfl (lv_at hl 2 rfl) ?_
  refine pu_calli (runV (As := [.int w]) (rest := [.long 1000, .long z_2]) ⟨hx, hb, hml, hown, hts⟩ (t_X10_priceOf l D cy base τ G a h_a w ⟨by omega, by omega⟩) sV_X10_363 hK (t_recv cf_11 hK hT h_a) ⟨Nat.le_trans hZ hS.1, hT⟩ ⟨Nat.le_of_ble_eq_true rfl, Nat.le_of_ble_eq_true rfl⟩ rfl hl.1 rfl (Nat.le_of_ble_eq_true rfl) dX10_standing_17 ⟨Nat.le_of_ble_eq_true rfl, Nat.le_of_ble_eq_true rfl⟩) (fun r_3 hr_3 => ?_)
  refine lv_i2l hx hb dX10_standing_20 rfl ?_
  refine lv_topl (fun z_4 ez_4 => ?_)
  have tz_4 : z_4.toInt = r_3.toInt := by rw [ez_4]; exact wide_t r_3
  have az_4 := min_t r_3
  have bz_4 := max_t r_3
  refine lv_lmul hx hb dX10_standing_21 ?_
  refine lv_topl (fun z_5 ez_5 => ?_)
  have tz_5 : z_5.toInt = 1000 * z_4.toInt := mul_t64 ez_5 (show -9223372036854775808 ≤ 1000 * z_4.toInt by omega) (show 1000 * z_4.toInt < 9223372036854775808 by omega)
  refine lv_iload_n hx hb dX10_standing_22 rfl (lv_at hl 3 rfl) ?_
  refine lv_iload hx hb dX10_standing_23 (lv_at hl 4 rfl) ?_
  refine lv_isub hx hb dX10_standing_25 ?_
  refine lv_topi (fun z_6 ez_6 => ?_)
  refine lv_i2l hx hb dX10_standing_26 rfl ?_
  refine lv_topl (fun z_7 ez_7 => ?_)
  have tz_7 : z_7.toInt = z_6.toInt := by rw [ez_7]; exact wide_t z_6
  have az_7 := min_t z_6
  have bz_7 := max_t z_6
  refine lv_lmul hx hb dX10_standing_27 ?_
  refine lv_topl (fun z_8 ez_8 => ?_)
  refine lv_ladd hx hb dX10_standing_28 ?_
  refine lv_topl (fun z_9 ez_9 => ?_)
  exact ret_l hx hb hr hlocks ⟨rfl, _, rfl, trivial⟩ (fun _ h => absurd h List.not_mem_nil) (Nat.le_refl _) (Nat.le_refl _) dX10_standing_29
set_option maxHeartbeats 4000000 in
set_option maxRecDepth 100000 in
theorem t_X10_burnt (l : Launch) (D : va_G) (cy : Nat → ClassId) (base : Nat) (τ : Nat → Nat) (G : Gh) (a : Nat) (h_a : τ a = 11) (v0 : Int32) (v1 : Int32) (v2 : Int32) (v3 : Int32) : MM l yX10_burnt cX10_burnt 5 (some .long) 4 0 0 D cy [.ref a, .int v0, .int v1, .int v2, .int v3] (PT D cy base τ G) (QT D cy base τ G [11, 79] (fun v g => ∃ r : Int64, v = some (.long r) ∧ (True))) (RA base) := by
  refine MM.of (by decide) (Nat.le_of_ble_eq_true rfl) ?_
  intro p e s m below meth c C hPT ls hl
  obtain ⟨hx, hb, hr, hml, hown, hts, hlocks, hK, hnm⟩ := C
  obtain ⟨hZ, hT⟩ := hPT
  have hS : va_S (RA base) s.heap s.heap [] := va_S.rf
  have hF : Fr τ [11, 79] G G := Fr.rf
  have hl : lv_has ls 5 [(0, .ref a), (1, .int v0), (2, .int v1), (3, .int v2), (4, .int v3)] := hl
  refine lv_aload_n hx hb dX10_burnt_0 rfl (lv_at hl 0 rfl) ?_
  refine lv_iconst (v := 0) hx hb dX10_burnt_1 (by decide) ?_
  refine t_puti (x := 0) cf_11 hx hb hts hown hK hT hS h_a (k := 0) rfl trivial fl_X10_111 (fun _ h9 => h9) rfl rfl rfl dX10_burnt_2 (fun H locs G_1 eG_1 hT hS => ?_)
  have hF := hF.wI eG_1 h_a rfl
  refine lv_aload_n hx hb dX10_burnt_5 rfl (lv_at hl 0 rfl) ?_
  refine lv_iload_n hx hb dX10_burnt_6 rfl (lv_at hl 1 rfl) ?_
  refine lv_iload_n hx hb dX10_burnt_7 rfl (lv_at hl 2 rfl) ?_
  refine lv_iload_n hx hb dX10_burnt_8 rfl (lv_at hl 3 rfl) ?_
  refine pu_calli (runV (As := [.int v0, .int v1, .int v2]) (rest := []) ⟨hx, hb, hml, hown, hts⟩ (t_X10_isStore l D cy base τ G_1 a h_a v0 v1 v2) sV_X10_375 hK (t_recv cf_11 hK hT h_a) ⟨Nat.le_trans hZ hS.1, hT⟩ ⟨Nat.le_of_ble_eq_true rfl, Nat.le_of_ble_eq_true rfl⟩ rfl hl.1 rfl (Nat.le_of_ble_eq_true rfl) dX10_burnt_9 ⟨Nat.le_of_ble_eq_true rfl, Nat.le_of_ble_eq_true rfl⟩) (fun r_2 hr_2 => ?_)
  have hr_2_c := hr_2
  rcases hr_2_c with hr_2_0 | hr_2_1
  · skip
    obtain ⟨er_2, hr_2_0_f0, hr_2_0_f1, hr_2_0_f2, hr_2_0_f3, hr_2_0_f4, hr_2_0_f5⟩ := hr_2_0
    have hr_2_0_f0 : 0 ≤ v0.toInt := hr_2_0_f0
    have hr_2_0_f1 : v0.toInt ≤ 5 := hr_2_0_f1
    have hr_2_0_f2 : 0 ≤ v1.toInt := hr_2_0_f2
    have hr_2_0_f3 : v1.toInt ≤ 2 := hr_2_0_f3
    have hr_2_0_f4 : 0 ≤ v2.toInt := hr_2_0_f4
    have hr_2_0_f5 : v2.toInt ≤ 999 := hr_2_0_f5
    subst er_2
    refine W.eq (g2 := F0 m 12 ls [.int 1]) rfl ?_
    refine lv_if_eq (tgt := 23) hx hb dX10_burnt_12 (by decide) (fun c_3 => absurd c_3 (by decide)) (fun _ => ?_)
    refine lv_iload hx hb dX10_burnt_15 (lv_at hl 4 rfl) ?_
    refine pu_calli (runS (As := [.int v3]) (rest := []) ⟨hx, hb, hml, hown, hts⟩ (t_X10_areHundredths l D cy base τ G_1 v3) sS_X10_464 hK ⟨Nat.le_trans hZ hS.1, hT⟩ ⟨Nat.le_of_ble_eq_true rfl, Nat.le_of_ble_eq_true rfl⟩ rfl hl.1 rfl (Nat.le_of_ble_eq_true rfl) dX10_burnt_17 ⟨Nat.le_of_ble_eq_true rfl, Nat.le_of_ble_eq_true rfl⟩) (fun r_4 hr_4 => ?_)
    have hr_4_c := hr_4
    rcases hr_4_c with hr_4_0 | hr_4_1
    · skip
      obtain ⟨er_4, hr_4_0_f0, hr_4_0_f1⟩ := hr_4_0
      have hr_4_0_f0 : 0 ≤ v3.toInt := hr_4_0_f0
      have hr_4_0_f1 : v3.toInt ≤ 100 := hr_4_0_f1
      subst er_4
      refine W.eq (g2 := F0 m 20 ls [.int 1]) rfl ?_
      refine lv_if_ne (tgt := 27) hx hb dX10_burnt_20 (by decide) (fun _ => ?_) (fun c_5 => absurd c_5 (by decide))
      refine lv_aload_n hx hb dX10_burnt_27 rfl (lv_at hl 0 rfl) ?_
      refine lv_iload_n hx hb dX10_burnt_28 rfl (lv_at hl 1 rfl) ?_
      refine t_callv (runV (As := [.int v0]) (rest := []) ⟨hx, hb, hml, hown, hts⟩ (t_X10_splits l D cy base τ G_1 a h_a v0 ⟨by omega, by omega⟩) sV_X10_302 hK (t_recv cf_11 hK hT h_a) ⟨Nat.le_trans hZ hS.1, hT⟩ ⟨Nat.le_of_ble_eq_true rfl, Nat.le_of_ble_eq_true rfl⟩ rfl hl.1 rfl (Nat.le_of_ble_eq_true rfl) dX10_burnt_29 ⟨Nat.le_of_ble_eq_true rfl, Nat.le_of_ble_eq_true rfl⟩) hS (fun G_6 H locs hF_6 hr_6 hT hS => ?_)
      have hF := hF.tr hF_6 rfl
      refine lv_bipush (v := 100) hx hb dX10_burnt_32 (by decide) ?_
      refine lv_iload hx hb dX10_burnt_34 (lv_at hl 4 rfl) ?_
      refine lv_isub hx hb dX10_burnt_36 ?_
      refine lv_topi (fun z_7 ez_7 => ?_)
      have tz_7 : z_7.toInt = 100 - v3.toInt := sub_t ez_7 (show -2147483648 ≤ 100 - v3.toInt by omega) (show 100 - v3.toInt < 2147483648 by omega)
      refine lv_i2l hx hb dX10_burnt_37 rfl ?_
      refine lv_topl (fun z_8 ez_8 => ?_)
      have tz_8 : z_8.toInt = z_7.toInt := by rw [ez_8]; exact wide_t z_7
      refine lv_aload_n hx hb dX10_burnt_38 rfl (lv_at hl 0 rfl) ?_
      refine lv_iload_n hx hb dX10_burnt_39 rfl (lv_at hl 1 rfl) ?_
      refine lv_iload_n hx hb dX10_burnt_40 rfl (lv_at hl 2 rfl) ?_
      refine lv_iload_n hx hb dX10_burnt_41 rfl (lv_at hl 3 rfl) ?_
      refine lv_iload_n hx hb dX10_burnt_42 rfl (lv_at hl 3 rfl) ?_
      refine pu_calll (runV (As := [.int v0, .int v1, .int v2, .int v2]) (rest := [.long z_8]) ⟨hx, hb, hml, hown, hts⟩ (t_X10_standing l D cy base τ G_6 a h_a v0 ⟨by omega, by omega⟩ v1 ⟨by omega, by omega⟩ v2 v2) sV_X10_467 hK (t_recv cf_11 hK hT h_a) ⟨Nat.le_trans hZ hS.1, hT⟩ ⟨Nat.le_of_ble_eq_true rfl, Nat.le_of_ble_eq_true rfl⟩ rfl hl.1 rfl (Nat.le_of_ble_eq_true rfl) dX10_burnt_43 ⟨Nat.le_of_ble_eq_true rfl, Nat.le_of_ble_eq_true rfl⟩) (fun r_9 hr_9 => ?_)
      refine lv_lmul hx hb dX10_burnt_46 ?_
      refine lv_topl (fun z_10 ez_10 => ?_)
      refine lv_iload hx hb dX10_burnt_47 (lv_at hl 4 rfl) ?_
      refine lv_i2l hx hb dX10_burnt_49 rfl ?_
      refine lv_topl (fun z_11 ez_11 => ?_)
      have tz_11 : z_11.toInt = v3.toInt := by rw [ez_11]; exact wide_t v3
      refine lv_aload_n hx hb dX10_burnt_50 rfl (lv_at hl 0 rfl) ?_
      refine lv_iload_n hx hb dX10_burnt_51 rfl (lv_at hl 1 rfl) ?_
      refine lv_iload_n hx hb dX10_burnt_52 rfl (lv_at hl 2 rfl) ?_
      refine lv_iload_n hx hb dX10_burnt_53 rfl (lv_at hl 3 rfl) ?_
      refine lv_iconst (v := 0) hx hb dX10_burnt_54 (by decide) ?_
      refine pu_calll (runV (As := [.int v0, .int v1, .int v2, .int 0]) (rest := [.long z_11, .long z_10]) ⟨hx, hb, hml, hown, hts⟩ (t_X10_standing l D cy base τ G_6 a h_a v0 ⟨by omega, by omega⟩ v1 ⟨by omega, by omega⟩ v2 0) sV_X10_467 hK (t_recv cf_11 hK hT h_a) ⟨Nat.le_trans hZ hS.1, hT⟩ ⟨Nat.le_of_ble_eq_true rfl, Nat.le_of_ble_eq_true rfl⟩ rfl hl.1 rfl (Nat.le_of_ble_eq_true rfl) dX10_burnt_55 ⟨Nat.le_of_ble_eq_true rfl, Nat.le_of_ble_eq_true rfl⟩) (fun r_12 hr_12 => ?_)
      refine lv_lmul hx hb dX10_burnt_58 ?_
      refine lv_topl (fun z_13 ez_13 => ?_)
      refine lv_ladd hx hb dX10_burnt_59 ?_
      refine lv_topl (fun z_14 ez_14 => ?_)
      refine lv_ldc2 (v := 100) hx hb hown (hts _ kl_X10_282) dX10_burnt_60 ?_
      refine lv_ldiv hx hb dX10_burnt_63 (by decide) ?_
      refine lv_topl (fun z_15 ez_15 => ?_)
      exact ret_l hx hb hr hlocks ⟨⟨hS.1, hS.2.1⟩, G_6, hF, ⟨_, rfl, trivial⟩, hT⟩ hS.2.2 (Nat.le_of_ble_eq_true rfl) (Nat.le_of_ble_eq_true rfl) dX10_burnt_64
    · skip
      have er_4 := hr_4_1
      subst er_4
      refine W.eq (g2 := F0 m 20 ls [.int 0]) rfl ?_
      refine lv_if_ne (tgt := 27) hx hb dX10_burnt_20 (by decide) (fun c_16 => absurd rfl c_16) (fun _ => ?_)
      refine lv_ldc2 (v := (-2)) hx hb hown (hts _ kl_X10_300) dX10_burnt_23 ?_
      exact ret_l hx hb hr hlocks ⟨⟨hS.1, hS.2.1⟩, G_1, hF, ⟨_, rfl, trivial⟩, hT⟩ hS.2.2 (Nat.le_of_ble_eq_true rfl) (Nat.le_of_ble_eq_true rfl) dX10_burnt_26
  · skip
    have er_2 := hr_2_1
    subst er_2
    refine W.eq (g2 := F0 m 12 ls [.int 0]) rfl ?_
    refine lv_if_eq (tgt := 23) hx hb dX10_burnt_12 (by decide) (fun _ => ?_) (fun c_17 => absurd (by decide) c_17)
    refine lv_ldc2 (v := (-2)) hx hb hown (hts _ kl_X10_300) dX10_burnt_23 ?_
    exact ret_l hx hb hr hlocks ⟨⟨hS.1, hS.2.1⟩, G_1, hF, ⟨_, rfl, trivial⟩, hT⟩ hS.2.2 (Nat.le_of_ble_eq_true rfl) (Nat.le_of_ble_eq_true rfl) dX10_burnt_26
set_option maxHeartbeats 4000000 in
set_option maxRecDepth 100000 in
theorem t_X10_spreadOf (l : Launch) (D : va_G) (cy : Nat → ClassId) (base : Nat) (τ : Nat → Nat) (G : Gh) (a : Nat) (h_a : τ a = 11) (v : Int32) (r_v : 0 ≤ v.toInt ∧ v.toInt ≤ 5) (w : Int32) (r_w : 0 ≤ w.toInt ∧ w.toInt ≤ 2) (y : Int32) (z : Int32) : MM l yX10_spreadOf cX10_spreadOf 10 (some .long) 4 0 0 D cy [.ref a, .int v, .int w, .int y, .int z] (PT D cy base τ G) (PuL (fun r => True)) noF := by
  refine MM.of (by decide) (Nat.le_of_ble_eq_true rfl) ?_
  intro p e s m below meth c C hPT ls hl
  obtain ⟨hx, hb, hr, hml, hown, hts, hlocks, hK, hnm⟩ := C
  obtain ⟨hZ, hT⟩ := hPT
  have hS : va_S (RA base) s.heap s.heap [] := va_S.rf
  have hl : lv_has ls 10 [(0, .ref a), (1, .int v), (2, .int w), (3, .int y), (4, .int z)] := hl
  refine lv_iload_n hx hb dX10_spreadOf_0 rfl (lv_at hl 3 rfl) ?_
  refine lv_iconst (v := 2) hx hb dX10_spreadOf_1 (by decide) ?_
  refine lv_idiv hx hb dX10_spreadOf_2 (by decide) ?_
  refine lv_topi (fun z_1 ez_1 => ?_)
  refine lv_istore (lv' := [(5, .int z_1), (0, .ref a), (1, .int v), (2, .int w), (3, .int y), (4, .int z)]) hx hb dX10_spreadOf_3 hl (by decide) rfl (fun ls hl => ?_)
  refine lv_ldc2 (v := 100) hx hb hown (hts _ kl_X10_282) dX10_spreadOf_5 ?_
  refine lv_iload hx hb dX10_spreadOf_8 (lv_at hl 5 rfl) ?_
  refine lv_i2l hx hb dX10_spreadOf_10 rfl ?_
  refine lv_topl (fun z_2 ez_2 => ?_)
  have tz_2 : z_2.toInt = z.toInt := by rw [ez_2]; exact wide_t z
  have az_2 := min_t z
  have bz_2 := max_t z
  refine lv_lsub hx hb dX10_spreadOf_11 ?_
  refine lv_topl (fun z_3 ez_3 => ?_)
  have tz_3 : z_3.toInt = 100 - z_2.toInt := sub_t64 ez_3 (show -9223372036854775808 ≤ 100 - z_2.toInt by omega) (show 100 - z_2.toInt < 9223372036854775808 by omega)
  refine lv_ldc2 (v := 100) hx hb hown (hts _ kl_X10_282) dX10_spreadOf_12 ?_
  refine lv_iload hx hb dX10_spreadOf_15 (lv_at hl 5 rfl) ?_
  refine lv_i2l hx hb dX10_spreadOf_17 rfl ?_
  refine lv_topl (fun z_4 ez_4 => ?_)
  have tz_4 : z_4.toInt = z.toInt := by rw [ez_4]; exact wide_t z
  have az_4 := min_t z
  have bz_4 := max_t z
  refine lv_lsub hx hb dX10_spreadOf_18 ?_
  refine lv_topl (fun z_5 ez_5 => ?_)
  have tz_5 : z_5.toInt = 100 - z_4.toInt := sub_t64 ez_5 (show -9223372036854775808 ≤ 100 - z_4.toInt by omega) (show 100 - z_4.toInt < 9223372036854775808 by omega)
  refine lv_lmul hx hb dX10_spreadOf_19 ?_
  refine lv_topl (fun z_6 ez_6 => ?_)
  refine lv_aload_n hx hb dX10_spreadOf_20 rfl (lv_at hl 1 rfl) ?_
  refine lv_iload_n hx hb dX10_spreadOf_21 rfl (lv_at hl 2 rfl) ?_
  refine lv_iload_n hx hb dX10_spreadOf_22 rfl (lv_at hl 3 rfl) ?_
  refine lv_iload_n hx hb dX10_spreadOf_23 rfl (lv_at hl 4 rfl) ?_
  refine lv_iload_n hx hb dX10_spreadOf_24 rfl (lv_at hl 4 rfl) ?_
  refine pu_calll (runV (As := [.int v, .int w, .int y, .int y]) (rest := [.long z_6]) ⟨hx, hb, hml, hown, hts⟩ (t_X10_standing l D cy base τ G a h_a v ⟨by omega, by omega⟩ w ⟨by omega, by omega⟩ y y) sV_X10_467 hK (t_recv cf_11 hK hT h_a) ⟨Nat.le_trans hZ hS.1, hT⟩ ⟨Nat.le_of_ble_eq_true rfl, Nat.le_of_ble_eq_true rfl⟩ rfl hl.1 rfl (Nat.le_of_ble_eq_true rfl) dX10_spreadOf_25 ⟨Nat.le_of_ble_eq_true rfl, Nat.le_of_ble_eq_true rfl⟩) (fun r_7 hr_7 => ?_)
  refine lv_lmul hx hb dX10_spreadOf_28 ?_
  refine lv_topl (fun z_8 ez_8 => ?_)
  refine lv_lstore (lv' := [(6, .long z_8), (5, .int z_1), (0, .ref a), (1, .int v), (2, .int w), (3, .int y), (4, .int z)]) hx hb dX10_spreadOf_29 hl (by decide) rfl (fun ls hl => ?_)
  refine lv_ldc2 (v := 100) hx hb hown (hts _ kl_X10_282) dX10_spreadOf_31 ?_
  refine lv_iload hx hb dX10_spreadOf_34 (lv_at hl 6 rfl) ?_
  refine lv_i2l hx hb dX10_spreadOf_36 rfl ?_
  refine lv_topl (fun z_9 ez_9 => ?_)
  have tz_9 : z_9.toInt = z.toInt := by rw [ez_9]; exact wide_t z
  have az_9 := min_t z
  have bz_9 := max_t z
  refine lv_lsub hx hb dX10_spreadOf_37 ?_
  refine lv_topl (fun z_10 ez_10 => ?_)
  have tz_10 : z_10.toInt = 100 - z_9.toInt := sub_t64 ez_10 (show -9223372036854775808 ≤ 100 - z_9.toInt by omega) (show 100 - z_9.toInt < 9223372036854775808 by omega)
  refine lv_iload hx hb dX10_spreadOf_38 (lv_at hl 6 rfl) ?_
  refine lv_i2l hx hb dX10_spreadOf_40 rfl ?_
  refine lv_topl (fun z_11 ez_11 => ?_)
  have tz_11 : z_11.toInt = z.toInt := by rw [ez_11]; exact wide_t z
  have az_11 := min_t z
  have bz_11 := max_t z
  refine lv_lmul hx hb dX10_spreadOf_41 ?_
  refine lv_topl (fun z_12 ez_12 => ?_)
  refine lv_aload_n hx hb dX10_spreadOf_42 rfl (lv_at hl 2 rfl) ?_
  refine lv_iload_n hx hb dX10_spreadOf_43 rfl (lv_at hl 3 rfl) ?_
  refine lv_iload_n hx hb dX10_spreadOf_44 rfl (lv_at hl 4 rfl) ?_
  refine lv_iload_n hx hb dX10_spreadOf_45 rfl (lv_at hl 5 rfl) ?_
  refine lv_iload hx hb dX10_spreadOf_46 (lv_at hl 1 rfl) ?_
  refine pu_calll (runV (As := [.int v, .int w, .int y, .int z_1]) (rest := [.long z_12]) ⟨hx, hb, hml, hown, hts⟩ (t_X10_standing l D cy base τ G a h_a v ⟨by omega, by omega⟩ w ⟨by omega, by omega⟩ y z_1) sV_X10_467 hK (t_recv cf_11 hK hT h_a) ⟨Nat.le_trans hZ hS.1, hT⟩ ⟨Nat.le_of_ble_eq_true rfl, Nat.le_of_ble_eq_true rfl⟩ rfl hl.1 rfl (Nat.le_of_ble_eq_true rfl) dX10_spreadOf_48 ⟨Nat.le_of_ble_eq_true rfl, Nat.le_of_ble_eq_true rfl⟩) (fun r_13 hr_13 => ?_)
  refine lv_aload_n hx hb dX10_spreadOf_51 rfl (lv_at hl 2 rfl) ?_
  refine lv_iload_n hx hb dX10_spreadOf_52 rfl (lv_at hl 3 rfl) ?_
  refine lv_iload_n hx hb dX10_spreadOf_53 rfl (lv_at hl 4 rfl) ?_
  refine lv_iload_n hx hb dX10_spreadOf_54 rfl (lv_at hl 5 rfl) ?_
  refine lv_iload_n hx hb dX10_spreadOf_55 rfl (lv_at hl 5 rfl) ?_
  refine lv_iload hx hb dX10_spreadOf_56 (lv_at hl 1 rfl) ?_
  refine lv_isub hx hb dX10_spreadOf_58 ?_
  refine lv_topi (fun z_14 ez_14 => ?_)
  refine pu_calll (runV (As := [.int v, .int w, .int y, .int z_14]) (rest := [.long r_13, .long z_12]) ⟨hx, hb, hml, hown, hts⟩ (t_X10_standing l D cy base τ G a h_a v ⟨by omega, by omega⟩ w ⟨by omega, by omega⟩ y z_14) sV_X10_467 hK (t_recv cf_11 hK hT h_a) ⟨Nat.le_trans hZ hS.1, hT⟩ ⟨Nat.le_of_ble_eq_true rfl, Nat.le_of_ble_eq_true rfl⟩ rfl hl.1 rfl (Nat.le_of_ble_eq_true rfl) dX10_spreadOf_59 ⟨Nat.le_of_ble_eq_true rfl, Nat.le_of_ble_eq_true rfl⟩) (fun r_15 hr_15 => ?_)
  refine lv_ladd hx hb dX10_spreadOf_62 ?_
  refine lv_topl (fun z_16 ez_16 => ?_)
  refine lv_lmul hx hb dX10_spreadOf_63 ?_
  refine lv_topl (fun z_17 ez_17 => ?_)
  refine lv_lstore (lv' := [(8, .long z_17), (6, .long z_8), (5, .int z_1), (0, .ref a), (1, .int v), (2, .int w), (3, .int y), (4, .int z)]) hx hb dX10_spreadOf_64 hl (by decide) rfl (fun ls hl => ?_)
  refine lv_lload hx hb dX10_spreadOf_66 (lv_at hl 1 rfl) ?_
  refine lv_lload hx hb dX10_spreadOf_68 (lv_at hl 0 rfl) ?_
  refine lv_ladd hx hb dX10_spreadOf_70 ?_
  refine lv_topl (fun z_18 ez_18 => ?_)
  refine lv_iload hx hb dX10_spreadOf_71 (lv_at hl 7 rfl) ?_
  refine lv_i2l hx hb dX10_spreadOf_73 rfl ?_
  refine lv_topl (fun z_19 ez_19 => ?_)
  have tz_19 : z_19.toInt = z.toInt := by rw [ez_19]; exact wide_t z
  have az_19 := min_t z
  have bz_19 := max_t z
  refine lv_iload hx hb dX10_spreadOf_74 (lv_at hl 7 rfl) ?_
  refine lv_i2l hx hb dX10_spreadOf_76 rfl ?_
  refine lv_topl (fun z_20 ez_20 => ?_)
  have tz_20 : z_20.toInt = z.toInt := by rw [ez_20]; exact wide_t z
  have az_20 := min_t z
  have bz_20 := max_t z
  refine lv_lmul hx hb dX10_spreadOf_77 ?_
  refine lv_topl (fun z_21 ez_21 => ?_)
  refine lv_aload_n hx hb dX10_spreadOf_78 rfl (lv_at hl 3 rfl) ?_
  refine lv_iload_n hx hb dX10_spreadOf_79 rfl (lv_at hl 4 rfl) ?_
  refine lv_iload_n hx hb dX10_spreadOf_80 rfl (lv_at hl 5 rfl) ?_
  refine lv_iload_n hx hb dX10_spreadOf_81 rfl (lv_at hl 6 rfl) ?_
  refine lv_iconst (v := 0) hx hb dX10_spreadOf_82 (by decide) ?_
  refine pu_calll (runV (As := [.int v, .int w, .int y, .int 0]) (rest := [.long z_21, .long z_18]) ⟨hx, hb, hml, hown, hts⟩ (t_X10_standing l D cy base τ G a h_a v ⟨by omega, by omega⟩ w ⟨by omega, by omega⟩ y 0) sV_X10_467 hK (t_recv cf_11 hK hT h_a) ⟨Nat.le_trans hZ hS.1, hT⟩ ⟨Nat.le_of_ble_eq_true rfl, Nat.le_of_ble_eq_true rfl⟩ rfl hl.1 rfl (Nat.le_of_ble_eq_true rfl) dX10_spreadOf_83 ⟨Nat.le_of_ble_eq_true rfl, Nat.le_of_ble_eq_true rfl⟩) (fun r_22 hr_22 => ?_)
  refine lv_lmul hx hb dX10_spreadOf_86 ?_
  refine lv_topl (fun z_23 ez_23 => ?_)
  refine lv_ladd hx hb dX10_spreadOf_87 ?_
  refine lv_topl (fun z_24 ez_24 => ?_)
  refine lv_ldc2 (v := 10000) hx hb hown (hts _ kl_X10_471) dX10_spreadOf_88 ?_
  refine lv_ldiv hx hb dX10_spreadOf_91 (by decide) ?_
  refine lv_topl (fun z_25 ez_25 => ?_)
  exact ret_l hx hb hr hlocks ⟨rfl, _, rfl, trivial⟩ (fun _ h => absurd h List.not_mem_nil) (Nat.le_refl _) (Nat.le_refl _) dX10_spreadOf_92
set_option maxHeartbeats 4000000 in
set_option maxRecDepth 100000 in
theorem t_X10_spread (l : Launch) (D : va_G) (cy : Nat → ClassId) (base : Nat) (τ : Nat → Nat) (G : Gh) (a : Nat) (h_a : τ a = 11) (v0 : Int32) (v1 : Int32) (v2 : Int32) (v3 : Int32) : MM l yX10_spread cX10_spread 5 (some .long) 5 0 0 D cy [.ref a, .int v0, .int v1, .int v2, .int v3] (PT D cy base τ G) (QT D cy base τ G [11, 79] (fun v g => ∃ r : Int64, v = some (.long r) ∧ (True))) (RA base) := by
  refine MM.of (by decide) (Nat.le_of_ble_eq_true rfl) ?_
  intro p e s m below meth c C hPT ls hl
  obtain ⟨hx, hb, hr, hml, hown, hts, hlocks, hK, hnm⟩ := C
  obtain ⟨hZ, hT⟩ := hPT
  have hS : va_S (RA base) s.heap s.heap [] := va_S.rf
  have hF : Fr τ [11, 79] G G := Fr.rf
  have hl : lv_has ls 5 [(0, .ref a), (1, .int v0), (2, .int v1), (3, .int v2), (4, .int v3)] := hl
  refine lv_aload_n hx hb dX10_spread_0 rfl (lv_at hl 0 rfl) ?_
  refine lv_iconst (v := 0) hx hb dX10_spread_1 (by decide) ?_
  refine t_puti (x := 0) cf_11 hx hb hts hown hK hT hS h_a (k := 0) rfl trivial fl_X10_111 (fun _ h9 => h9) rfl rfl rfl dX10_spread_2 (fun H locs G_1 eG_1 hT hS => ?_)
  have hF := hF.wI eG_1 h_a rfl
  refine lv_aload_n hx hb dX10_spread_5 rfl (lv_at hl 0 rfl) ?_
  refine lv_iload_n hx hb dX10_spread_6 rfl (lv_at hl 1 rfl) ?_
  refine lv_iload_n hx hb dX10_spread_7 rfl (lv_at hl 2 rfl) ?_
  refine lv_iload_n hx hb dX10_spread_8 rfl (lv_at hl 3 rfl) ?_
  refine pu_calli (runV (As := [.int v0, .int v1, .int v2]) (rest := []) ⟨hx, hb, hml, hown, hts⟩ (t_X10_isStore l D cy base τ G_1 a h_a v0 v1 v2) sV_X10_375 hK (t_recv cf_11 hK hT h_a) ⟨Nat.le_trans hZ hS.1, hT⟩ ⟨Nat.le_of_ble_eq_true rfl, Nat.le_of_ble_eq_true rfl⟩ rfl hl.1 rfl (Nat.le_of_ble_eq_true rfl) dX10_spread_9 ⟨Nat.le_of_ble_eq_true rfl, Nat.le_of_ble_eq_true rfl⟩) (fun r_2 hr_2 => ?_)
  have hr_2_c := hr_2
  rcases hr_2_c with hr_2_0 | hr_2_1
  · skip
    obtain ⟨er_2, hr_2_0_f0, hr_2_0_f1, hr_2_0_f2, hr_2_0_f3, hr_2_0_f4, hr_2_0_f5⟩ := hr_2_0
    have hr_2_0_f0 : 0 ≤ v0.toInt := hr_2_0_f0
    have hr_2_0_f1 : v0.toInt ≤ 5 := hr_2_0_f1
    have hr_2_0_f2 : 0 ≤ v1.toInt := hr_2_0_f2
    have hr_2_0_f3 : v1.toInt ≤ 2 := hr_2_0_f3
    have hr_2_0_f4 : 0 ≤ v2.toInt := hr_2_0_f4
    have hr_2_0_f5 : v2.toInt ≤ 999 := hr_2_0_f5
    subst er_2
    refine W.eq (g2 := F0 m 12 ls [.int 1]) rfl ?_
    refine lv_if_eq (tgt := 23) hx hb dX10_spread_12 (by decide) (fun c_3 => absurd c_3 (by decide)) (fun _ => ?_)
    refine lv_iload hx hb dX10_spread_15 (lv_at hl 4 rfl) ?_
    refine pu_calli (runS (As := [.int v3]) (rest := []) ⟨hx, hb, hml, hown, hts⟩ (t_X10_areHundredths l D cy base τ G_1 v3) sS_X10_464 hK ⟨Nat.le_trans hZ hS.1, hT⟩ ⟨Nat.le_of_ble_eq_true rfl, Nat.le_of_ble_eq_true rfl⟩ rfl hl.1 rfl (Nat.le_of_ble_eq_true rfl) dX10_spread_17 ⟨Nat.le_of_ble_eq_true rfl, Nat.le_of_ble_eq_true rfl⟩) (fun r_4 hr_4 => ?_)
    have hr_4_c := hr_4
    rcases hr_4_c with hr_4_0 | hr_4_1
    · skip
      obtain ⟨er_4, hr_4_0_f0, hr_4_0_f1⟩ := hr_4_0
      have hr_4_0_f0 : 0 ≤ v3.toInt := hr_4_0_f0
      have hr_4_0_f1 : v3.toInt ≤ 100 := hr_4_0_f1
      subst er_4
      refine W.eq (g2 := F0 m 20 ls [.int 1]) rfl ?_
      refine lv_if_ne (tgt := 27) hx hb dX10_spread_20 (by decide) (fun _ => ?_) (fun c_5 => absurd c_5 (by decide))
      refine lv_aload_n hx hb dX10_spread_27 rfl (lv_at hl 0 rfl) ?_
      refine lv_iload_n hx hb dX10_spread_28 rfl (lv_at hl 1 rfl) ?_
      refine t_callv (runV (As := [.int v0]) (rest := []) ⟨hx, hb, hml, hown, hts⟩ (t_X10_splits l D cy base τ G_1 a h_a v0 ⟨by omega, by omega⟩) sV_X10_302 hK (t_recv cf_11 hK hT h_a) ⟨Nat.le_trans hZ hS.1, hT⟩ ⟨Nat.le_of_ble_eq_true rfl, Nat.le_of_ble_eq_true rfl⟩ rfl hl.1 rfl (Nat.le_of_ble_eq_true rfl) dX10_spread_29 ⟨Nat.le_of_ble_eq_true rfl, Nat.le_of_ble_eq_true rfl⟩) hS (fun G_6 H locs hF_6 hr_6 hT hS => ?_)
      have hF := hF.tr hF_6 rfl
      refine lv_aload_n hx hb dX10_spread_32 rfl (lv_at hl 0 rfl) ?_
      refine lv_iload_n hx hb dX10_spread_33 rfl (lv_at hl 1 rfl) ?_
      refine lv_iload_n hx hb dX10_spread_34 rfl (lv_at hl 2 rfl) ?_
      refine lv_iload_n hx hb dX10_spread_35 rfl (lv_at hl 3 rfl) ?_
      refine lv_iload hx hb dX10_spread_36 (lv_at hl 4 rfl) ?_
      refine pu_calll (runV (As := [.int v0, .int v1, .int v2, .int v3]) (rest := []) ⟨hx, hb, hml, hown, hts⟩ (t_X10_spreadOf l D cy base τ G_6 a h_a v0 ⟨by omega, by omega⟩ v1 ⟨by omega, by omega⟩ v2 v3) sV_X10_473 hK (t_recv cf_11 hK hT h_a) ⟨Nat.le_trans hZ hS.1, hT⟩ ⟨Nat.le_of_ble_eq_true rfl, Nat.le_of_ble_eq_true rfl⟩ rfl hl.1 rfl (Nat.le_of_ble_eq_true rfl) dX10_spread_38 ⟨Nat.le_of_ble_eq_true rfl, Nat.le_of_ble_eq_true rfl⟩) (fun r_7 hr_7 => ?_)
      exact ret_l hx hb hr hlocks ⟨⟨hS.1, hS.2.1⟩, G_6, hF, ⟨_, rfl, trivial⟩, hT⟩ hS.2.2 (Nat.le_of_ble_eq_true rfl) (Nat.le_of_ble_eq_true rfl) dX10_spread_41
    · skip
      have er_4 := hr_4_1
      subst er_4
      refine W.eq (g2 := F0 m 20 ls [.int 0]) rfl ?_
      refine lv_if_ne (tgt := 27) hx hb dX10_spread_20 (by decide) (fun c_8 => absurd rfl c_8) (fun _ => ?_)
      refine lv_ldc2 (v := (-2)) hx hb hown (hts _ kl_X10_300) dX10_spread_23 ?_
      exact ret_l hx hb hr hlocks ⟨⟨hS.1, hS.2.1⟩, G_1, hF, ⟨_, rfl, trivial⟩, hT⟩ hS.2.2 (Nat.le_of_ble_eq_true rfl) (Nat.le_of_ble_eq_true rfl) dX10_spread_26
  · skip
    have er_2 := hr_2_1
    subst er_2
    refine W.eq (g2 := F0 m 12 ls [.int 0]) rfl ?_
    refine lv_if_eq (tgt := 23) hx hb dX10_spread_12 (by decide) (fun _ => ?_) (fun c_9 => absurd (by decide) c_9)
    refine lv_ldc2 (v := (-2)) hx hb hown (hts _ kl_X10_300) dX10_spread_23 ?_
    exact ret_l hx hb hr hlocks ⟨⟨hS.1, hS.2.1⟩, G_1, hF, ⟨_, rfl, trivial⟩, hT⟩ hS.2.2 (Nat.le_of_ble_eq_true rfl) (Nat.le_of_ble_eq_true rfl) dX10_spread_26
set_option maxHeartbeats 4000000 in
set_option maxRecDepth 100000 in
theorem t_X10_bear (l : Launch) (D : va_G) (cy : Nat → ClassId) (base : Nat) (τ : Nat → Nat) (G : Gh) (a : Nat) (h_a : τ a = 11) (v0 : Int32) (v1 : Int32) (v2 : Int32) : MM l yX10_bear cX10_bear 10 (some .int) 5 0 0 D cy [.ref a, .int v0, .int v1, .int v2] (PT D cy base τ G) (QT D cy base τ G [11, 79] (fun v g => ∃ r : Int32, v = some (.int r) ∧ (True))) (RA base) := by
  refine MM.of (by decide) (Nat.le_of_ble_eq_true rfl) ?_
  intro p e s m below meth c C hPT ls hl
  obtain ⟨hx, hb, hr, hml, hown, hts, hlocks, hK, hnm⟩ := C
  obtain ⟨hZ, hT⟩ := hPT
  have hS : va_S (RA base) s.heap s.heap [] := va_S.rf
  have hF : Fr τ [11, 79] G G := Fr.rf
  have hl : lv_has ls 10 [(0, .ref a), (1, .int v0), (2, .int v1), (3, .int v2)] := hl
  refine lv_aload_n hx hb dX10_bear_0 rfl (lv_at hl 0 rfl) ?_
  refine lv_iconst (v := 0) hx hb dX10_bear_1 (by decide) ?_
  refine t_puti (x := 0) cf_11 hx hb hts hown hK hT hS h_a (k := 0) rfl trivial fl_X10_111 (fun _ h9 => h9) rfl rfl rfl dX10_bear_2 (fun H locs G_1 eG_1 hT hS => ?_)
  have hF := hF.wI eG_1 h_a rfl
  refine lv_aload_n hx hb dX10_bear_5 rfl (lv_at hl 0 rfl) ?_
  refine lv_iload_n hx hb dX10_bear_6 rfl (lv_at hl 1 rfl) ?_
  refine lv_iload_n hx hb dX10_bear_7 rfl (lv_at hl 2 rfl) ?_
  refine lv_iconst (v := 0) hx hb dX10_bear_8 (by decide) ?_
  refine pu_calli (runV (As := [.int v0, .int v1, .int 0]) (rest := []) ⟨hx, hb, hml, hown, hts⟩ (t_X10_isStore l D cy base τ G_1 a h_a v0 v1 0) sV_X10_375 hK (t_recv cf_11 hK hT h_a) ⟨Nat.le_trans hZ hS.1, hT⟩ ⟨Nat.le_of_ble_eq_true rfl, Nat.le_of_ble_eq_true rfl⟩ rfl hl.1 rfl (Nat.le_of_ble_eq_true rfl) dX10_bear_9 ⟨Nat.le_of_ble_eq_true rfl, Nat.le_of_ble_eq_true rfl⟩) (fun r_2 hr_2 => ?_)
  have hr_2_c := hr_2
  rcases hr_2_c with hr_2_0 | hr_2_1
  · skip
    obtain ⟨er_2, hr_2_0_f0, hr_2_0_f1, hr_2_0_f2, hr_2_0_f3, hr_2_0_f4, hr_2_0_f5⟩ := hr_2_0
    have hr_2_0_f0 : 0 ≤ v0.toInt := hr_2_0_f0
    have hr_2_0_f1 : v0.toInt ≤ 5 := hr_2_0_f1
    have hr_2_0_f2 : 0 ≤ v1.toInt := hr_2_0_f2
    have hr_2_0_f3 : v1.toInt ≤ 2 := hr_2_0_f3
    subst er_2
    refine W.eq (g2 := F0 m 12 ls [.int 1]) rfl ?_
    refine lv_if_eq (tgt := 22) hx hb dX10_bear_12 (by decide) (fun c_3 => absurd c_3 (by decide)) (fun _ => ?_)
    refine lv_iload_n hx hb dX10_bear_15 rfl (lv_at hl 3 rfl) ?_
    refine pu_calli (runS (As := [.int v2]) (rest := []) ⟨hx, hb, hml, hown, hts⟩ (t_X10_areHundredths l D cy base τ G_1 v2) sS_X10_464 hK ⟨Nat.le_trans hZ hS.1, hT⟩ ⟨Nat.le_of_ble_eq_true rfl, Nat.le_of_ble_eq_true rfl⟩ rfl hl.1 rfl (Nat.le_of_ble_eq_true rfl) dX10_bear_16 ⟨Nat.le_of_ble_eq_true rfl, Nat.le_of_ble_eq_true rfl⟩) (fun r_4 hr_4 => ?_)
    have hr_4_c := hr_4
    rcases hr_4_c with hr_4_0 | hr_4_1
    · skip
      obtain ⟨er_4, hr_4_0_f0, hr_4_0_f1⟩ := hr_4_0
      have hr_4_0_f0 : 0 ≤ v2.toInt := hr_4_0_f0
      have hr_4_0_f1 : v2.toInt ≤ 100 := hr_4_0_f1
      subst er_4
      refine W.eq (g2 := F0 m 19 ls [.int 1]) rfl ?_
      refine lv_if_ne (tgt := 25) hx hb dX10_bear_19 (by decide) (fun _ => ?_) (fun c_5 => absurd c_5 (by decide))
      refine lv_aload_n hx hb dX10_bear_25 rfl (lv_at hl 0 rfl) ?_
      refine lv_iload_n hx hb dX10_bear_26 rfl (lv_at hl 1 rfl) ?_
      refine t_callv (runV (As := [.int v0]) (rest := []) ⟨hx, hb, hml, hown, hts⟩ (t_X10_splits l D cy base τ G_1 a h_a v0 ⟨by omega, by omega⟩) sV_X10_302 hK (t_recv cf_11 hK hT h_a) ⟨Nat.le_trans hZ hS.1, hT⟩ ⟨Nat.le_of_ble_eq_true rfl, Nat.le_of_ble_eq_true rfl⟩ rfl hl.1 rfl (Nat.le_of_ble_eq_true rfl) dX10_bear_27 ⟨Nat.le_of_ble_eq_true rfl, Nat.le_of_ble_eq_true rfl⟩) hS (fun G_6 H locs hF_6 hr_6 hT hS => ?_)
      have hF := hF.tr hF_6 rfl
      refine lv_iconst (v := 0) hx hb dX10_bear_30 (by decide) ?_
      refine lv_istore (lv' := [(4, .int 0), (0, .ref a), (1, .int v0), (2, .int v1), (3, .int v2)]) hx hb dX10_bear_31 hl (by decide) rfl (fun ls hl => ?_)
      refine lv_aload_n hx hb dX10_bear_33 rfl (lv_at hl 1 rfl) ?_
      refine lv_iload_n hx hb dX10_bear_34 rfl (lv_at hl 2 rfl) ?_
      refine lv_iload_n hx hb dX10_bear_35 rfl (lv_at hl 3 rfl) ?_
      refine lv_iconst (v := 0) hx hb dX10_bear_36 (by decide) ?_
      refine lv_iload_n hx hb dX10_bear_37 rfl (lv_at hl 4 rfl) ?_
      refine pu_calll (runV (As := [.int v0, .int v1, .int 0, .int v2]) (rest := []) ⟨hx, hb, hml, hown, hts⟩ (t_X10_spreadOf l D cy base τ G_6 a h_a v0 ⟨by omega, by omega⟩ v1 ⟨by omega, by omega⟩ 0 v2) sV_X10_473 hK (t_recv cf_11 hK hT h_a) ⟨Nat.le_trans hZ hS.1, hT⟩ ⟨Nat.le_of_ble_eq_true rfl, Nat.le_of_ble_eq_true rfl⟩ rfl hl.1 rfl (Nat.le_of_ble_eq_true rfl) dX10_bear_38 ⟨Nat.le_of_ble_eq_true rfl, Nat.le_of_ble_eq_true rfl⟩) (fun r_7 hr_7 => ?_)
      refine lv_lstore (lv' := [(5, .long r_7), (4, .int 0), (0, .ref a), (1, .int v0), (2, .int v1), (3, .int v2)]) hx hb dX10_bear_41 hl (by decide) rfl (fun ls hl => ?_)
      refine lv_iconst (v := 1) hx hb dX10_bear_43 (by decide) ?_
      refine lv_istore (lv' := [(7, .int 1), (5, .long r_7), (4, .int 0), (0, .ref a), (1, .int v0), (2, .int v1), (3, .int v2)]) hx hb dX10_bear_44 hl (by decide) rfl (fun ls hl => ?_)
      refine W.loop (σ := Int32 × Int64 × Int32 × Gh) (fun w8 H locs ls => 0 ≤ w8.2.2.1.toInt ∧ w8.2.2.1.toInt ≤ 1000 ∧ Fr τ [11, 79] G w8.2.2.2 ∧ TY D cy base τ w8.2.2.2 H ∧ va_S (RA base) s.heap H locs ∧ lv_has ls 10 [(4, .int w8.1), (5, .long w8.2.1), (7, .int w8.2.2.1), (0, .ref a), (1, .int v0), (2, .int v1), (3, .int v2)]) (fun w8 => (1000 - w8.2.2.1.toInt).toNat) ?_ ((0 : Int32), r_7, (1 : Int32), G_6) _ _ _ ⟨(by show 0 ≤ (1 : Int32).toInt; decide), (by show (1 : Int32).toInt ≤ 1000; decide), hF, hT, hS, lv_sub hl [2, 1, 0, 3, 4, 5, 6] rfl⟩
      intro w8 H locs ls hI ih8
      obtain ⟨x8_4, x8_5, x8_7, G_8⟩ := w8
      obtain ⟨i8_0, i8_1, hF, hT, hS, hl⟩ := hI
      have i8_0 : 0 ≤ x8_7.toInt := i8_0
      have i8_1 : x8_7.toInt ≤ 1000 := i8_1
      have hF : Fr τ [11, 79] G G_8 := hF
      have hT : TY D cy base τ G_8 H := hT
      have hS : va_S (RA base) s.heap H locs := hS
      have hl : lv_has ls 10 [(4, .int x8_4), (5, .long x8_5), (7, .int x8_7), (0, .ref a), (1, .int v0), (2, .int v1), (3, .int v2)] := hl
      refine lv_iload hx hb dX10_bear_46 (lv_at hl 2 rfl) ?_
      refine lv_sipush (v := 999) hx hb dX10_bear_48 (by decide) ?_
      refine lv_icmp_gt (tgt := 90) hx hb dX10_bear_51 (by decide) (fun c_9 => ?_) (fun c_9 => ?_)
      · skip
        have tc_9 : 999 < x8_7.toInt := (fa_lt _ _).mp c_9
        refine lv_iload hx hb dX10_bear_90 (lv_at hl 0 rfl) ?_
        exact ret_i hx hb hr hlocks ⟨⟨hS.1, hS.2.1⟩, G_8, hF, ⟨_, rfl, trivial⟩, hT⟩ hS.2.2 (Nat.le_of_ble_eq_true rfl) (Nat.le_of_ble_eq_true rfl) dX10_bear_92
      · skip
        have tc_9 : ¬ 999 < x8_7.toInt := fun h => c_9 ((fa_lt _ _).mpr h)
        refine lv_aload_n hx hb dX10_bear_54 rfl (lv_at hl 3 rfl) ?_
        refine lv_iload_n hx hb dX10_bear_55 rfl (lv_at hl 4 rfl) ?_
        refine lv_iload_n hx hb dX10_bear_56 rfl (lv_at hl 5 rfl) ?_
        refine lv_iload hx hb dX10_bear_57 (lv_at hl 2 rfl) ?_
        refine lv_iload_n hx hb dX10_bear_59 rfl (lv_at hl 6 rfl) ?_
        refine pu_calll (runV (As := [.int v0, .int v1, .int x8_7, .int v2]) (rest := []) ⟨hx, hb, hml, hown, hts⟩ (t_X10_spreadOf l D cy base τ G_8 a h_a v0 ⟨by omega, by omega⟩ v1 ⟨by omega, by omega⟩ x8_7 v2) sV_X10_473 hK (t_recv cf_11 hK hT h_a) ⟨Nat.le_trans hZ hS.1, hT⟩ ⟨Nat.le_of_ble_eq_true rfl, Nat.le_of_ble_eq_true rfl⟩ rfl hl.1 rfl (Nat.le_of_ble_eq_true rfl) dX10_bear_60 ⟨Nat.le_of_ble_eq_true rfl, Nat.le_of_ble_eq_true rfl⟩) (fun r_10 hr_10 => ?_)
        refine lv_lstore (lv' := [(8, .long r_10), (4, .int x8_4), (5, .long x8_5), (7, .int x8_7), (0, .ref a), (1, .int v0), (2, .int v1), (3, .int v2)]) hx hb dX10_bear_63 hl (by decide) rfl (fun ls hl => ?_)
        refine lv_lload hx hb dX10_bear_65 (lv_at hl 0 rfl) ?_
        refine lv_lload hx hb dX10_bear_67 (lv_at hl 2 rfl) ?_
        refine W.lcmp hx hb dX10_bear_69 ?_
        refine lv_topi (fun z_11 ez_11 => ?_)
        have tz_11 : (z_11.toInt < 0 ↔ r_10.toInt < x8_5.toInt) ∧ (0 < z_11.toInt ↔ x8_5.toInt < r_10.toInt) ∧ -1 ≤ z_11.toInt ∧ z_11.toInt ≤ 1 := cmp_t ez_11
        refine lv_if_lt (tgt := 76) hx hb dX10_bear_70 (by decide) (fun c_12 => ?_) (fun c_12 => ?_)
        · skip
          have tc_12 : z_11.toInt < 0 := (fa_lt _ _).mp c_12
          refine lv_iload hx hb dX10_bear_76 (lv_at hl 3 rfl) ?_
          refine lv_istore (lv' := [(4, .int x8_7), (8, .long r_10), (5, .long x8_5), (7, .int x8_7), (0, .ref a), (1, .int v0), (2, .int v1), (3, .int v2)]) hx hb dX10_bear_78 hl (by decide) rfl (fun ls hl => ?_)
          refine lv_lload hx hb dX10_bear_80 (lv_at hl 1 rfl) ?_
          refine lv_lstore (lv' := [(5, .long r_10), (4, .int x8_7), (8, .long r_10), (7, .int x8_7), (0, .ref a), (1, .int v0), (2, .int v1), (3, .int v2)]) hx hb dX10_bear_82 hl (by decide) rfl (fun ls hl => ?_)
          obtain ⟨z_13, ez_13⟩ : ∃ y : Int32, y = x8_7 + 1 := ⟨_, rfl⟩
          have tz_13 : z_13.toInt = x8_7.toInt + 1 := add_t ez_13 (show -2147483648 ≤ x8_7.toInt + 1 by omega) (show x8_7.toInt + 1 < 2147483648 by omega)
          refine lv_iinc (v := z_13) (lv' := [(7, .int z_13), (5, .long r_10), (4, .int x8_7), (8, .long r_10), (0, .ref a), (1, .int v0), (2, .int v1), (3, .int v2)]) hx hb dX10_bear_84 hl (k := 3) rfl (by rw [ez_13]; rfl) (by decide) rfl (fun ls hl => ?_)
          refine lv_goto (tgt := 46) hx hb dX10_bear_87 (by decide) ?_
          exact ih8 (x8_7, r_10, z_13, G_8) _ _ _ (by show (1000 - z_13.toInt).toNat < (1000 - x8_7.toInt).toNat; omega) ⟨(by show 0 ≤ z_13.toInt; omega), (by show z_13.toInt ≤ 1000; omega), hF, hT, hS, lv_sub hl [2, 1, 0, 4, 5, 6, 7] rfl⟩
        · skip
          have tc_12 : ¬ z_11.toInt < 0 := fun h => c_12 ((fa_lt _ _).mpr h)
          refine lv_goto (tgt := 84) hx hb dX10_bear_73 (by decide) ?_
          obtain ⟨z_14, ez_14⟩ : ∃ y : Int32, y = x8_7 + 1 := ⟨_, rfl⟩
          have tz_14 : z_14.toInt = x8_7.toInt + 1 := add_t ez_14 (show -2147483648 ≤ x8_7.toInt + 1 by omega) (show x8_7.toInt + 1 < 2147483648 by omega)
          refine lv_iinc (v := z_14) (lv' := [(7, .int z_14), (8, .long r_10), (4, .int x8_4), (5, .long x8_5), (0, .ref a), (1, .int v0), (2, .int v1), (3, .int v2)]) hx hb dX10_bear_84 hl (k := 3) rfl (by rw [ez_14]; rfl) (by decide) rfl (fun ls hl => ?_)
          refine lv_goto (tgt := 46) hx hb dX10_bear_87 (by decide) ?_
          exact ih8 (x8_4, x8_5, z_14, G_8) _ _ _ (by show (1000 - z_14.toInt).toNat < (1000 - x8_7.toInt).toNat; omega) ⟨(by show 0 ≤ z_14.toInt; omega), (by show z_14.toInt ≤ 1000; omega), hF, hT, hS, lv_sub hl [2, 3, 0, 4, 5, 6, 7] rfl⟩
    · skip
      have er_4 := hr_4_1
      subst er_4
      refine W.eq (g2 := F0 m 19 ls [.int 0]) rfl ?_
      refine lv_if_ne (tgt := 25) hx hb dX10_bear_19 (by decide) (fun c_15 => absurd rfl c_15) (fun _ => ?_)
      refine lv_bipush (v := (-2)) hx hb dX10_bear_22 (by decide) ?_
      exact ret_i hx hb hr hlocks ⟨⟨hS.1, hS.2.1⟩, G_1, hF, ⟨_, rfl, trivial⟩, hT⟩ hS.2.2 (Nat.le_of_ble_eq_true rfl) (Nat.le_of_ble_eq_true rfl) dX10_bear_24
  · skip
    have er_2 := hr_2_1
    subst er_2
    refine W.eq (g2 := F0 m 12 ls [.int 0]) rfl ?_
    refine lv_if_eq (tgt := 22) hx hb dX10_bear_12 (by decide) (fun _ => ?_) (fun c_16 => absurd (by decide) c_16)
    refine lv_bipush (v := (-2)) hx hb dX10_bear_22 (by decide) ?_
    exact ret_i hx hb hr hlocks ⟨⟨hS.1, hS.2.1⟩, G_1, hF, ⟨_, rfl, trivial⟩, hT⟩ hS.2.2 (Nat.le_of_ble_eq_true rfl) (Nat.le_of_ble_eq_true rfl) dX10_bear_24
set_option maxHeartbeats 4000000 in
set_option maxRecDepth 100000 in
theorem t_X10_drawn (l : Launch) (D : va_G) (cy : Nat → ClassId) (base : Nat) (τ : Nat → Nat) (G : Gh) (a : Nat) (h_a : τ a = 11) : MM l yX10_drawn cX10_drawn 1 (some .int) 0 0 0 D cy [.ref a] (PT D cy base τ G) (QT D cy base τ G [11] (fun v g => ∃ r : Int32, v = some (.int r) ∧ (True))) (RA base) := by
  refine MM.of (by decide) (Nat.le_of_ble_eq_true rfl) ?_
  intro p e s m below meth c C hPT ls hl
  obtain ⟨hx, hb, hr, hml, hown, hts, hlocks, hK, hnm⟩ := C
  obtain ⟨hZ, hT⟩ := hPT
  have hS : va_S (RA base) s.heap s.heap [] := va_S.rf
  have hF : Fr τ [11] G G := Fr.rf
  have hl : lv_has ls 1 [(0, .ref a)] := hl
  refine lv_aload_n hx hb dX10_drawn_0 rfl (lv_at hl 0 rfl) ?_
  refine lv_ldc2 (v := 1103515245) hx hb hown (hts _ kl_X10_476) dX10_drawn_1 ?_
  refine lv_aload_n hx hb dX10_drawn_4 rfl (lv_at hl 0 rfl) ?_
  refine t_getl cf_11 hx hb hts hown hK hT h_a (k := 42) rfl fl_X10_478 (fun _ h9 => h9) dX10_drawn_5 (fun z_1 ez_1 => ?_)
  refine lv_lmul hx hb dX10_drawn_8 ?_
  refine lv_topl (fun z_2 ez_2 => ?_)
  refine lv_ldc2 (v := 12345) hx hb hown (hts _ kl_X10_481) dX10_drawn_9 ?_
  refine lv_ladd hx hb dX10_drawn_12 ?_
  refine lv_topl (fun z_3 ez_3 => ?_)
  refine lv_ldc2 (v := 2147483648) hx hb hown (hts _ kl_X10_483) dX10_drawn_13 ?_
  refine lv_lrem hx hb dX10_drawn_16 (by decide) ?_
  refine lv_topl (fun z_4 ez_4 => ?_)
  refine t_putl (x := z_4) cf_11 hx hb hts hown hK hT hS h_a (k := 42) rfl fl_X10_478 (fun _ h9 => h9) rfl rfl rfl dX10_drawn_17 (fun H locs G_5 eG_5 hT hS => ?_)
  have hF := hF.wL eG_5 h_a rfl
  refine lv_aload_n hx hb dX10_drawn_20 rfl (lv_at hl 0 rfl) ?_
  refine t_getl cf_11 hx hb hts hown hK hT h_a (k := 42) rfl fl_X10_478 (fun _ h9 => h9) dX10_drawn_21 (fun z_6 ez_6 => ?_)
  refine lv_ldc2 (v := 65536) hx hb hown (hts _ kl_X10_485) dX10_drawn_24 ?_
  refine lv_ldiv hx hb dX10_drawn_27 (by decide) ?_
  refine lv_topl (fun z_7 ez_7 => ?_)
  refine lv_ldc2 (v := 100) hx hb hown (hts _ kl_X10_282) dX10_drawn_28 ?_
  refine lv_lrem hx hb dX10_drawn_31 (by decide) ?_
  refine lv_topl (fun z_8 ez_8 => ?_)
  refine lv_l2i hx hb dX10_drawn_32 rfl ?_
  refine lv_topi (fun z_9 ez_9 => ?_)
  exact ret_i hx hb hr hlocks ⟨⟨hS.1, hS.2.1⟩, G_5, hF, ⟨_, rfl, trivial⟩, hT⟩ hS.2.2 (Nat.le_of_ble_eq_true rfl) (Nat.le_of_ble_eq_true rfl) dX10_drawn_33
set_option maxHeartbeats 4000000 in
set_option maxRecDepth 100000 in
theorem t_X10_draws (l : Launch) (D : va_G) (cy : Nat → ClassId) (base : Nat) (τ : Nat → Nat) (G : Gh) (a : Nat) (h_a : τ a = 11) (x : Int64) : MM l yX10_draws cX10_draws 7 (some .int) 1 0 0 D cy [.ref a, .long x] (PT D cy base τ G) (QT D cy base τ G [11, 91] (fun v g => ∃ r : Int32, v = some (.int r) ∧ (True))) (RA base) := by
  refine MM.of (by decide) (Nat.le_of_ble_eq_true rfl) ?_
  intro p e s m below meth c C hPT ls hl
  obtain ⟨hx, hb, hr, hml, hown, hts, hlocks, hK, hnm⟩ := C
  obtain ⟨hZ, hT⟩ := hPT
  have hS : va_S (RA base) s.heap s.heap [] := va_S.rf
  have hF : Fr τ [11, 91] G G := Fr.rf
  have hl : lv_has ls 7 [(0, .ref a), (1, .long x)] := hl
  refine lv_iconst (v := 0) hx hb dX10_draws_0 (by decide) ?_
  refine lv_istore_n (lv' := [(3, .int 0), (0, .ref a), (1, .long x)]) hx hb dX10_draws_1 rfl hl (by decide) rfl (fun ls hl => ?_)
  refine W.loop (σ := Int32 × Gh) (fun w1 H locs ls => 0 ≤ w1.1.toInt ∧ w1.1.toInt ≤ 6 ∧ Fr τ [11, 91] G w1.2 ∧ TY D cy base τ w1.2 H ∧ va_S (RA base) s.heap H locs ∧ lv_has ls 7 [(3, .int w1.1), (0, .ref a), (1, .long x)]) (fun w1 => (6 - w1.1.toInt).toNat) ?_ ((0 : Int32), G) _ _ _ ⟨(by show 0 ≤ (0 : Int32).toInt; decide), (by show (0 : Int32).toInt ≤ 6; decide), hF, hT, hS, lv_sub hl [0, 1, 2] rfl⟩
  intro w1 H locs ls hI ih1
  obtain ⟨x1_3, G_1⟩ := w1
  obtain ⟨i1_0, i1_1, hF, hT, hS, hl⟩ := hI
  have i1_0 : 0 ≤ x1_3.toInt := i1_0
  have i1_1 : x1_3.toInt ≤ 6 := i1_1
  have hF : Fr τ [11, 91] G G_1 := hF
  have hT : TY D cy base τ G_1 H := hT
  have hS : va_S (RA base) s.heap H locs := hS
  have hl : lv_has ls 7 [(3, .int x1_3), (0, .ref a), (1, .long x)] := hl
  refine lv_iload_n hx hb dX10_draws_2 rfl (lv_at hl 0 rfl) ?_
  refine lv_bipush (v := 6) hx hb dX10_draws_3 (by decide) ?_
  refine lv_icmp_ge (tgt := 21) hx hb dX10_draws_5 (by decide) (fun c_2 => ?_) (fun c_2 => ?_)
  · skip
    have tc_2 : 6 ≤ x1_3.toInt := (fa_le _ _).mp c_2
    refine lv_aload_n hx hb dX10_draws_21 rfl (lv_at hl 1 rfl) ?_
    refine lv_lload_n hx hb dX10_draws_22 rfl (lv_at hl 2 rfl) ?_
    refine t_putl (x := x) cf_11 hx hb hts hown hK hT hS h_a (k := 42) rfl fl_X10_478 (fun _ h9 => h9) rfl rfl rfl dX10_draws_23 (fun H locs G_3 eG_3 hT hS => ?_)
    have hF := hF.wL eG_3 h_a rfl
    refine lv_iconst (v := 0) hx hb dX10_draws_26 (by decide) ?_
    refine lv_istore_n (lv' := [(3, .int 0), (0, .ref a), (1, .long x)]) hx hb dX10_draws_27 rfl hl (by decide) rfl (fun ls hl => ?_)
    refine lv_iconst (v := 0) hx hb dX10_draws_28 (by decide) ?_
    refine lv_istore (lv' := [(4, .int 0), (3, .int 0), (0, .ref a), (1, .long x)]) hx hb dX10_draws_29 hl (by decide) rfl (fun ls hl => ?_)
    refine lv_iconst (v := 1) hx hb dX10_draws_31 (by decide) ?_
    refine lv_istore (lv' := [(5, .int 1), (4, .int 0), (3, .int 0), (0, .ref a), (1, .long x)]) hx hb dX10_draws_32 hl (by decide) rfl (fun ls hl => ?_)
    refine W.loop (σ := Int32 × Int32 × Int32 × Gh) (fun w4 H locs ls => 0 ≤ w4.2.2.1.toInt ∧ w4.2.2.1.toInt ≤ 61 ∧ Fr τ [11, 91] G w4.2.2.2 ∧ TY D cy base τ w4.2.2.2 H ∧ va_S (RA base) s.heap H locs ∧ lv_has ls 7 [(3, .int w4.1), (4, .int w4.2.1), (5, .int w4.2.2.1), (0, .ref a), (1, .long x)]) (fun w4 => (61 - w4.2.2.1.toInt).toNat) ?_ ((0 : Int32), (0 : Int32), (1 : Int32), G_3) _ _ _ ⟨(by show 0 ≤ (1 : Int32).toInt; decide), (by show (1 : Int32).toInt ≤ 61; decide), hF, hT, hS, lv_sub hl [2, 1, 0, 3, 4] rfl⟩
    intro w4 H locs ls hI ih4
    obtain ⟨x4_3, x4_4, x4_5, G_4⟩ := w4
    obtain ⟨i4_0, i4_1, hF, hT, hS, hl⟩ := hI
    have i4_0 : 0 ≤ x4_5.toInt := i4_0
    have i4_1 : x4_5.toInt ≤ 61 := i4_1
    have hF : Fr τ [11, 91] G G_4 := hF
    have hT : TY D cy base τ G_4 H := hT
    have hS : va_S (RA base) s.heap H locs := hS
    have hl : lv_has ls 7 [(3, .int x4_3), (4, .int x4_4), (5, .int x4_5), (0, .ref a), (1, .long x)] := hl
    refine lv_iload hx hb dX10_draws_34 (lv_at hl 2 rfl) ?_
    refine lv_aload_n hx hb dX10_draws_36 rfl (lv_at hl 3 rfl) ?_
    obtain ⟨q_5, eq_5, hq_5⟩ := (show ∃ q, G_4.2.2.1 a 17 = some q ∧ τ q = 67 from hT.rgr h_a (by decide) 17)
    have eq_5 := (hF.r h_a (by decide) rfl _).symm.trans eq_5
    obtain ⟨z_6, ez_6⟩ : ∃ y : Int32, y = G_4.1 q_5 0 := ⟨_, rfl⟩
    have qz_6 : (0 % 4 = 0 → 0 ≤ z_6.toInt ∧ z_6.toInt ≤ 60) := by rw [ez_6]; exact hT.rgi hq_5 (by decide) 0
    have rz_6 : 0 ≤ z_6.toInt ∧ z_6.toInt ≤ 60 := by omega
    have ez_6 : z_6 = G.1 q_5 0 := ez_6.trans (hF.i hq_5 (by decide) rfl _)
    refine pu_calli (runV (As := []) (rest := [.int x4_5]) ⟨hx, hb, hml, hown, hts⟩ (t_X10_lastDay l D cy base τ G_4 a h_a q_5 hq_5 ((hF.r h_a (by decide) rfl _).trans eq_5) z_6 (ez_6.trans (hF.i hq_5 (by decide) rfl _).symm) ⟨by omega, by omega⟩) sV_X10_278 hK (t_recv cf_11 hK hT h_a) ⟨Nat.le_trans hZ hS.1, hT⟩ ⟨Nat.le_of_ble_eq_true rfl, Nat.le_of_ble_eq_true rfl⟩ rfl hl.1 rfl (Nat.le_of_ble_eq_true rfl) dX10_draws_37 ⟨Nat.le_of_ble_eq_true rfl, Nat.le_of_ble_eq_true rfl⟩) (fun r_7 hr_7 => ?_)
    have er_7 := hr_7
    have er_7 := er_7.symm
    subst er_7
    refine W.eq (g2 := F0 m 40 ls [.int z_6, .int x4_5]) rfl ?_
    refine lv_icmp_gt (tgt := 131) hx hb dX10_draws_40 (by decide) (fun c_8 => ?_) (fun c_8 => ?_)
    · skip
      have tc_8 : z_6.toInt < x4_5.toInt := (fa_lt _ _).mp c_8
      refine lv_iload hx hb dX10_draws_131 (lv_at hl 1 rfl) ?_
      exact ret_i hx hb hr hlocks ⟨⟨hS.1, hS.2.1⟩, G_4, hF, ⟨_, rfl, trivial⟩, hT⟩ hS.2.2 (Nat.le_of_ble_eq_true rfl) (Nat.le_of_ble_eq_true rfl) dX10_draws_133
    · skip
      have tc_8 : ¬ z_6.toInt < x4_5.toInt := fun h => c_8 ((fa_lt _ _).mpr h)
      refine lv_aload_n hx hb dX10_draws_43 rfl (lv_at hl 3 rfl) ?_
      refine t_calli (runV (As := []) (rest := []) ⟨hx, hb, hml, hown, hts⟩ (t_X10_drawn l D cy base τ G_4 a h_a) sV_X10_487 hK (t_recv cf_11 hK hT h_a) ⟨Nat.le_trans hZ hS.1, hT⟩ ⟨Nat.le_of_ble_eq_true rfl, Nat.le_of_ble_eq_true rfl⟩ rfl hl.1 rfl (Nat.le_of_ble_eq_true rfl) dX10_draws_44 ⟨Nat.le_of_ble_eq_true rfl, Nat.le_of_ble_eq_true rfl⟩) hS (fun r_9 G_9 H locs hF_9 hr_9 hT hS => ?_)
      have hF := hF.tr hF_9 rfl
      refine lv_aload_n hx hb dX10_draws_47 rfl (lv_at hl 3 rfl) ?_
      refine lv_iload hx hb dX10_draws_48 (lv_at hl 2 rfl) ?_
      refine lv_iload_n hx hb dX10_draws_50 rfl (lv_at hl 0 rfl) ?_
      refine pu_calli (runV (As := [.int x4_5, .int x4_3]) (rest := [.int r_9]) ⟨hx, hb, hml, hown, hts⟩ (t_X10_chance l D cy base τ G_9 a h_a x4_5 x4_3) sV_X10_286 hK (t_recv cf_11 hK hT h_a) ⟨Nat.le_trans hZ hS.1, hT⟩ ⟨Nat.le_of_ble_eq_true rfl, Nat.le_of_ble_eq_true rfl⟩ rfl hl.1 rfl (Nat.le_of_ble_eq_true rfl) dX10_draws_51 ⟨Nat.le_of_ble_eq_true rfl, Nat.le_of_ble_eq_true rfl⟩) (fun r_10 hr_10 => ?_)
      refine lv_icmp_ge (tgt := 61) hx hb dX10_draws_54 (by decide) (fun c_11 => ?_) (fun c_11 => ?_)
      · skip
        have tc_11 : r_10.toInt ≤ r_9.toInt := (fa_le _ _).mp c_11
        refine lv_iconst (v := 0) hx hb dX10_draws_61 (by decide) ?_
        refine lv_istore_n (lv' := [(3, .int 0), (4, .int x4_4), (5, .int x4_5), (0, .ref a), (1, .long x)]) hx hb dX10_draws_62 rfl hl (by decide) rfl (fun ls hl => ?_)
        refine lv_iconst (v := 0) hx hb dX10_draws_63 (by decide) ?_
        refine lv_istore (lv' := [(6, .int 0), (3, .int 0), (4, .int x4_4), (5, .int x4_5), (0, .ref a), (1, .long x)]) hx hb dX10_draws_64 hl (by decide) rfl (fun ls hl => ?_)
        refine W.loop (σ := Int32 × Int32 × Gh) (fun w12 H locs ls => 0 ≤ w12.2.1.toInt ∧ w12.2.1.toInt ≤ 6 ∧ Fr τ [11, 91] G w12.2.2 ∧ TY D cy base τ w12.2.2 H ∧ va_S (RA base) s.heap H locs ∧ lv_has ls 7 [(4, .int w12.1), (6, .int w12.2.1), (3, .int 0), (5, .int x4_5), (0, .ref a), (1, .long x)]) (fun w12 => (6 - w12.2.1.toInt).toNat) ?_ (x4_4, (0 : Int32), G_9) _ _ _ ⟨(by show 0 ≤ (0 : Int32).toInt; decide), (by show (0 : Int32).toInt ≤ 6; decide), hF, hT, hS, lv_sub hl [2, 0, 1, 3, 4, 5] rfl⟩
        intro w12 H locs ls hI ih12
        obtain ⟨x12_4, x12_6, G_12⟩ := w12
        obtain ⟨i12_0, i12_1, hF, hT, hS, hl⟩ := hI
        have i12_0 : 0 ≤ x12_6.toInt := i12_0
        have i12_1 : x12_6.toInt ≤ 6 := i12_1
        have hF : Fr τ [11, 91] G G_12 := hF
        have hT : TY D cy base τ G_12 H := hT
        have hS : va_S (RA base) s.heap H locs := hS
        have hl : lv_has ls 7 [(4, .int x12_4), (6, .int x12_6), (3, .int 0), (5, .int x4_5), (0, .ref a), (1, .long x)] := hl
        refine lv_iload hx hb dX10_draws_66 (lv_at hl 1 rfl) ?_
        refine lv_aload_n hx hb dX10_draws_68 rfl (lv_at hl 4 rfl) ?_
        refine t_getr cf_11 hx hb hts hown hK hT h_a (k := 20) (P := fun q => τ q = 70) rfl (fun _ h9 => h9) fl_X10_43 (fun _ h9 => h9) dX10_draws_69 (fun q_13 eq_13 hq_13 => ?_)
        have eq_13 := (hF.r h_a (by decide) rfl _).symm.trans eq_13
        refine lv_iconst (v := 0) hx hb dX10_draws_72 (by decide) ?_
        refine t_iald (n := 5) (i := 0) rfl (by decide) hx hb hK hT hq_13 (hT.len hq_13 (by decide)) ⟨by decide, by decide⟩ dX10_draws_73 (fun z_14 ez_14 rz_14 => ?_)
        have ez_14 : z_14 = G_12.1 q_13 0 := ez_14
        have rz_14 : 0 ≤ z_14.toInt ∧ z_14.toInt ≤ 6 := rz_14
        have ez_14 : z_14 = G.1 q_13 0 := ez_14.trans (hF.i hq_13 (by decide) rfl _)
        refine lv_icmp_ge (tgt := 125) hx hb dX10_draws_74 (by decide) (fun c_15 => ?_) (fun c_15 => ?_)
        · skip
          have tc_15 : z_14.toInt ≤ x12_6.toInt := (fa_le _ _).mp c_15
          obtain ⟨z_16, ez_16⟩ : ∃ y : Int32, y = x4_5 + 1 := ⟨_, rfl⟩
          have tz_16 : z_16.toInt = x4_5.toInt + 1 := add_t ez_16 (show -2147483648 ≤ x4_5.toInt + 1 by omega) (show x4_5.toInt + 1 < 2147483648 by omega)
          refine lv_iinc (v := z_16) (lv' := [(5, .int z_16), (4, .int x12_4), (6, .int x12_6), (3, .int 0), (0, .ref a), (1, .long x)]) hx hb dX10_draws_125 hl (k := 3) rfl (by rw [ez_16]; rfl) (by decide) rfl (fun ls hl => ?_)
          refine lv_goto (tgt := 34) hx hb dX10_draws_128 (by decide) ?_
          exact ih4 ((0 : Int32), x12_4, z_16, G_12) _ _ _ (by show (61 - z_16.toInt).toNat < (61 - x4_5.toInt).toNat; omega) ⟨(by show 0 ≤ z_16.toInt; omega), (by show z_16.toInt ≤ 61; omega), hF, hT, hS, lv_sub hl [3, 1, 0, 4, 5] rfl⟩
        · skip
          have tc_15 : ¬ z_14.toInt ≤ x12_6.toInt := fun h => c_15 ((fa_le _ _).mpr h)
          refine lv_iload_n hx hb dX10_draws_77 rfl (lv_at hl 2 rfl) ?_
          refine lv_if_eq (tgt := 125) hx hb dX10_draws_78 (by decide) (fun _ => ?_) (fun c_17 => absurd (by decide) c_17)
          obtain ⟨z_18, ez_18⟩ : ∃ y : Int32, y = x4_5 + 1 := ⟨_, rfl⟩
          have tz_18 : z_18.toInt = x4_5.toInt + 1 := add_t ez_18 (show -2147483648 ≤ x4_5.toInt + 1 by omega) (show x4_5.toInt + 1 < 2147483648 by omega)
          refine lv_iinc (v := z_18) (lv' := [(5, .int z_18), (4, .int x12_4), (6, .int x12_6), (3, .int 0), (0, .ref a), (1, .long x)]) hx hb dX10_draws_125 hl (k := 3) rfl (by rw [ez_18]; rfl) (by decide) rfl (fun ls hl => ?_)
          refine lv_goto (tgt := 34) hx hb dX10_draws_128 (by decide) ?_
          exact ih4 ((0 : Int32), x12_4, z_18, G_12) _ _ _ (by show (61 - z_18.toInt).toNat < (61 - x4_5.toInt).toNat; omega) ⟨(by show 0 ≤ z_18.toInt; omega), (by show z_18.toInt ≤ 61; omega), hF, hT, hS, lv_sub hl [3, 1, 0, 4, 5] rfl⟩
      · skip
        have tc_11 : ¬ r_10.toInt ≤ r_9.toInt := fun h => c_11 ((fa_le _ _).mpr h)
        have mc_11 : r_10.toInt ≤ 2147483647 := max_t r_10
        refine lv_iconst (v := 1) hx hb dX10_draws_57 (by decide) ?_
        refine lv_goto (tgt := 62) hx hb dX10_draws_58 (by decide) ?_
        refine lv_istore_n (lv' := [(3, .int 1), (4, .int x4_4), (5, .int x4_5), (0, .ref a), (1, .long x)]) hx hb dX10_draws_62 rfl hl (by decide) rfl (fun ls hl => ?_)
        refine lv_iconst (v := 0) hx hb dX10_draws_63 (by decide) ?_
        refine lv_istore (lv' := [(6, .int 0), (3, .int 1), (4, .int x4_4), (5, .int x4_5), (0, .ref a), (1, .long x)]) hx hb dX10_draws_64 hl (by decide) rfl (fun ls hl => ?_)
        refine W.loop (σ := Int32 × Int32 × Gh) (fun w19 H locs ls => 0 ≤ w19.2.1.toInt ∧ w19.2.1.toInt ≤ 6 ∧ Fr τ [11, 91] G w19.2.2 ∧ TY D cy base τ w19.2.2 H ∧ va_S (RA base) s.heap H locs ∧ lv_has ls 7 [(4, .int w19.1), (6, .int w19.2.1), (3, .int 1), (5, .int x4_5), (0, .ref a), (1, .long x)]) (fun w19 => (6 - w19.2.1.toInt).toNat) ?_ (x4_4, (0 : Int32), G_9) _ _ _ ⟨(by show 0 ≤ (0 : Int32).toInt; decide), (by show (0 : Int32).toInt ≤ 6; decide), hF, hT, hS, lv_sub hl [2, 0, 1, 3, 4, 5] rfl⟩
        intro w19 H locs ls hI ih19
        obtain ⟨x19_4, x19_6, G_19⟩ := w19
        obtain ⟨i19_0, i19_1, hF, hT, hS, hl⟩ := hI
        have i19_0 : 0 ≤ x19_6.toInt := i19_0
        have i19_1 : x19_6.toInt ≤ 6 := i19_1
        have hF : Fr τ [11, 91] G G_19 := hF
        have hT : TY D cy base τ G_19 H := hT
        have hS : va_S (RA base) s.heap H locs := hS
        have hl : lv_has ls 7 [(4, .int x19_4), (6, .int x19_6), (3, .int 1), (5, .int x4_5), (0, .ref a), (1, .long x)] := hl
        refine lv_iload hx hb dX10_draws_66 (lv_at hl 1 rfl) ?_
        refine lv_aload_n hx hb dX10_draws_68 rfl (lv_at hl 4 rfl) ?_
        refine t_getr cf_11 hx hb hts hown hK hT h_a (k := 20) (P := fun q => τ q = 70) rfl (fun _ h9 => h9) fl_X10_43 (fun _ h9 => h9) dX10_draws_69 (fun q_20 eq_20 hq_20 => ?_)
        have eq_20 := (hF.r h_a (by decide) rfl _).symm.trans eq_20
        refine lv_iconst (v := 0) hx hb dX10_draws_72 (by decide) ?_
        refine t_iald (n := 5) (i := 0) rfl (by decide) hx hb hK hT hq_20 (hT.len hq_20 (by decide)) ⟨by decide, by decide⟩ dX10_draws_73 (fun z_21 ez_21 rz_21 => ?_)
        have ez_21 : z_21 = G_19.1 q_20 0 := ez_21
        have rz_21 : 0 ≤ z_21.toInt ∧ z_21.toInt ≤ 6 := rz_21
        have ez_21 : z_21 = G.1 q_20 0 := ez_21.trans (hF.i hq_20 (by decide) rfl _)
        refine lv_icmp_ge (tgt := 125) hx hb dX10_draws_74 (by decide) (fun c_22 => ?_) (fun c_22 => ?_)
        · skip
          have tc_22 : z_21.toInt ≤ x19_6.toInt := (fa_le _ _).mp c_22
          obtain ⟨z_23, ez_23⟩ : ∃ y : Int32, y = x4_5 + 1 := ⟨_, rfl⟩
          have tz_23 : z_23.toInt = x4_5.toInt + 1 := add_t ez_23 (show -2147483648 ≤ x4_5.toInt + 1 by omega) (show x4_5.toInt + 1 < 2147483648 by omega)
          refine lv_iinc (v := z_23) (lv' := [(5, .int z_23), (4, .int x19_4), (6, .int x19_6), (3, .int 1), (0, .ref a), (1, .long x)]) hx hb dX10_draws_125 hl (k := 3) rfl (by rw [ez_23]; rfl) (by decide) rfl (fun ls hl => ?_)
          refine lv_goto (tgt := 34) hx hb dX10_draws_128 (by decide) ?_
          exact ih4 ((1 : Int32), x19_4, z_23, G_19) _ _ _ (by show (61 - z_23.toInt).toNat < (61 - x4_5.toInt).toNat; omega) ⟨(by show 0 ≤ z_23.toInt; omega), (by show z_23.toInt ≤ 61; omega), hF, hT, hS, lv_sub hl [3, 1, 0, 4, 5] rfl⟩
        · skip
          have tc_22 : ¬ z_21.toInt ≤ x19_6.toInt := fun h => c_22 ((fa_le _ _).mpr h)
          refine lv_iload_n hx hb dX10_draws_77 rfl (lv_at hl 2 rfl) ?_
          refine lv_if_eq (tgt := 125) hx hb dX10_draws_78 (by decide) (fun c_24 => absurd c_24 (by decide)) (fun _ => ?_)
          refine lv_aload_n hx hb dX10_draws_81 rfl (lv_at hl 4 rfl) ?_
          refine t_getr cf_11 hx hb hts hown hK hT h_a (k := 41) (P := fun q => τ q = 91) rfl (fun _ h9 => h9) fl_X10_108 (fun _ h9 => h9) dX10_draws_82 (fun q_25 eq_25 hq_25 => ?_)
          have eq_25 := (hF.r h_a (by decide) rfl _).symm.trans eq_25
          refine lv_iload hx hb dX10_draws_85 (lv_at hl 1 rfl) ?_
          refine t_iald (n := 6) (i := x19_6) rfl (by decide) hx hb hK hT hq_25 (hT.len hq_25 (by decide)) ⟨by omega, by omega⟩ dX10_draws_87 (fun z_26 ez_26 rz_26 => ?_)
          refine lv_if_ne (tgt := 119) hx hb dX10_draws_88 (by decide) (fun c_27 => ?_) (fun c_27 => ?_)
          · skip
            have tc_27 : ¬ z_26.toInt = 0 := fun h => c_27 ((fa_eq _ _).mpr h)
            obtain ⟨z_28, ez_28⟩ : ∃ y : Int32, y = x19_6 + 1 := ⟨_, rfl⟩
            have tz_28 : z_28.toInt = x19_6.toInt + 1 := add_t ez_28 (show -2147483648 ≤ x19_6.toInt + 1 by omega) (show x19_6.toInt + 1 < 2147483648 by omega)
            refine lv_iinc (v := z_28) (lv' := [(6, .int z_28), (4, .int x19_4), (3, .int 1), (5, .int x4_5), (0, .ref a), (1, .long x)]) hx hb dX10_draws_119 hl (k := 1) rfl (by rw [ez_28]; rfl) (by decide) rfl (fun ls hl => ?_)
            refine lv_goto (tgt := 66) hx hb dX10_draws_122 (by decide) ?_
            exact ih19 (x19_4, z_28, G_19) _ _ _ (by show (6 - z_28.toInt).toNat < (6 - x19_6.toInt).toNat; omega) ⟨(by show 0 ≤ z_28.toInt; omega), (by show z_28.toInt ≤ 6; omega), hF, hT, hS, lv_sub hl [1, 0, 2, 3, 4, 5] rfl⟩
          · skip
            have tc_27 : z_26.toInt = 0 := (fa_eq _ _).mp c_27
            refine lv_aload_n hx hb dX10_draws_91 rfl (lv_at hl 4 rfl) ?_
            refine t_calli (runV (As := []) (rest := []) ⟨hx, hb, hml, hown, hts⟩ (t_X10_drawn l D cy base τ G_19 a h_a) sV_X10_487 hK (t_recv cf_11 hK hT h_a) ⟨Nat.le_trans hZ hS.1, hT⟩ ⟨Nat.le_of_ble_eq_true rfl, Nat.le_of_ble_eq_true rfl⟩ rfl hl.1 rfl (Nat.le_of_ble_eq_true rfl) dX10_draws_92 ⟨Nat.le_of_ble_eq_true rfl, Nat.le_of_ble_eq_true rfl⟩) hS (fun r_29 G_29 H locs hF_29 hr_29 hT hS => ?_)
            have hF := hF.tr hF_29 rfl
            refine lv_aload_n hx hb dX10_draws_95 rfl (lv_at hl 4 rfl) ?_
            refine lv_iload hx hb dX10_draws_96 (lv_at hl 1 rfl) ?_
            refine pu_calli (runV (As := [.int x19_6]) (rest := [.int r_29]) ⟨hx, hb, hml, hown, hts⟩ (t_X10_shutOf l D cy base τ G_29 a h_a x19_6 ⟨by omega, by omega⟩) sV_X10_293 hK (t_recv cf_11 hK hT h_a) ⟨Nat.le_trans hZ hS.1, hT⟩ ⟨Nat.le_of_ble_eq_true rfl, Nat.le_of_ble_eq_true rfl⟩ rfl hl.1 rfl (Nat.le_of_ble_eq_true rfl) dX10_draws_98 ⟨Nat.le_of_ble_eq_true rfl, Nat.le_of_ble_eq_true rfl⟩) (fun r_30 hr_30 => ?_)
            refine lv_icmp_lt (tgt := 107) hx hb dX10_draws_101 (by decide) (fun c_31 => ?_) (fun c_31 => ?_)
            · skip
              have tc_31 : r_29.toInt < r_30.toInt := (fa_lt _ _).mp c_31
              have mc_31 : r_30.toInt ≤ 2147483647 := max_t r_30
              refine lv_aload_n hx hb dX10_draws_107 rfl (lv_at hl 4 rfl) ?_
              refine t_getr cf_11 hx hb hts hown hK hT h_a (k := 41) (P := fun q => τ q = 91) rfl (fun _ h9 => h9) fl_X10_108 (fun _ h9 => h9) dX10_draws_108 (fun q_32 eq_32 hq_32 => ?_)
              have w_33 : q_25 = q_32 := Option.some.inj (eq_25.symm.trans ((hF.r h_a (by decide) rfl _).symm.trans eq_32))
              subst w_33
              refine lv_iload hx hb dX10_draws_111 (lv_at hl 1 rfl) ?_
              refine lv_iload hx hb dX10_draws_113 (lv_at hl 3 rfl) ?_
              refine t_iast (n := 6) (i := x19_6) (x := x4_5) rfl (by decide) hx hb hK hT hS hq_25 (hT.len hq_25 (by decide)) ⟨by omega, by omega⟩ trivial dX10_draws_115 (fun H locs G_34 eG_34 hT hS => ?_)
              have hF := hF.wI eG_34 hq_25 rfl
              obtain ⟨z_35, ez_35⟩ : ∃ y : Int32, y = x19_4 + 1 := ⟨_, rfl⟩
              refine lv_iinc (v := z_35) (lv' := [(4, .int z_35), (6, .int x19_6), (3, .int 1), (5, .int x4_5), (0, .ref a), (1, .long x)]) hx hb dX10_draws_116 hl (k := 0) rfl (by rw [ez_35]; rfl) (by decide) rfl (fun ls hl => ?_)
              obtain ⟨z_36, ez_36⟩ : ∃ y : Int32, y = x19_6 + 1 := ⟨_, rfl⟩
              have tz_36 : z_36.toInt = x19_6.toInt + 1 := add_t ez_36 (show -2147483648 ≤ x19_6.toInt + 1 by omega) (show x19_6.toInt + 1 < 2147483648 by omega)
              refine lv_iinc (v := z_36) (lv' := [(6, .int z_36), (4, .int z_35), (3, .int 1), (5, .int x4_5), (0, .ref a), (1, .long x)]) hx hb dX10_draws_119 hl (k := 1) rfl (by rw [ez_36]; rfl) (by decide) rfl (fun ls hl => ?_)
              refine lv_goto (tgt := 66) hx hb dX10_draws_122 (by decide) ?_
              exact ih19 (z_35, z_36, G_34) _ _ _ (by show (6 - z_36.toInt).toNat < (6 - x19_6.toInt).toNat; omega) ⟨(by show 0 ≤ z_36.toInt; omega), (by show z_36.toInt ≤ 6; omega), hF, hT, hS, lv_sub hl [1, 0, 2, 3, 4, 5] rfl⟩
            · skip
              have tc_31 : ¬ r_29.toInt < r_30.toInt := fun h => c_31 ((fa_lt _ _).mpr h)
              refine lv_goto (tgt := 119) hx hb dX10_draws_104 (by decide) ?_
              obtain ⟨z_37, ez_37⟩ : ∃ y : Int32, y = x19_6 + 1 := ⟨_, rfl⟩
              have tz_37 : z_37.toInt = x19_6.toInt + 1 := add_t ez_37 (show -2147483648 ≤ x19_6.toInt + 1 by omega) (show x19_6.toInt + 1 < 2147483648 by omega)
              refine lv_iinc (v := z_37) (lv' := [(6, .int z_37), (4, .int x19_4), (3, .int 1), (5, .int x4_5), (0, .ref a), (1, .long x)]) hx hb dX10_draws_119 hl (k := 1) rfl (by rw [ez_37]; rfl) (by decide) rfl (fun ls hl => ?_)
              refine lv_goto (tgt := 66) hx hb dX10_draws_122 (by decide) ?_
              exact ih19 (x19_4, z_37, G_29) _ _ _ (by show (6 - z_37.toInt).toNat < (6 - x19_6.toInt).toNat; omega) ⟨(by show 0 ≤ z_37.toInt; omega), (by show z_37.toInt ≤ 6; omega), hF, hT, hS, lv_sub hl [1, 0, 2, 3, 4, 5] rfl⟩
  · skip
    have tc_2 : ¬ 6 ≤ x1_3.toInt := fun h => c_2 ((fa_le _ _).mpr h)
    refine lv_aload_n hx hb dX10_draws_8 rfl (lv_at hl 1 rfl) ?_
    refine t_getr cf_11 hx hb hts hown hK hT h_a (k := 41) (P := fun q => τ q = 91) rfl (fun _ h9 => h9) fl_X10_108 (fun _ h9 => h9) dX10_draws_9 (fun q_38 eq_38 hq_38 => ?_)
    have eq_38 := (hF.r h_a (by decide) rfl _).symm.trans eq_38
    refine lv_iload_n hx hb dX10_draws_12 rfl (lv_at hl 0 rfl) ?_
    refine lv_iconst (v := 0) hx hb dX10_draws_13 (by decide) ?_
    refine t_iast (n := 6) (i := x1_3) (x := 0) rfl (by decide) hx hb hK hT hS hq_38 (hT.len hq_38 (by decide)) ⟨by omega, by omega⟩ trivial dX10_draws_14 (fun H locs G_39 eG_39 hT hS => ?_)
    have hF := hF.wI eG_39 hq_38 rfl
    obtain ⟨z_40, ez_40⟩ : ∃ y : Int32, y = x1_3 + 1 := ⟨_, rfl⟩
    have tz_40 : z_40.toInt = x1_3.toInt + 1 := add_t ez_40 (show -2147483648 ≤ x1_3.toInt + 1 by omega) (show x1_3.toInt + 1 < 2147483648 by omega)
    refine lv_iinc (v := z_40) (lv' := [(3, .int z_40), (0, .ref a), (1, .long x)]) hx hb dX10_draws_15 hl (k := 0) rfl (by rw [ez_40]; rfl) (by decide) rfl (fun ls hl => ?_)
    refine lv_goto (tgt := 2) hx hb dX10_draws_18 (by decide) ?_
    exact ih1 (z_40, G_39) _ _ _ (by show (6 - z_40.toInt).toNat < (6 - x1_3.toInt).toNat; omega) ⟨(by show 0 ≤ z_40.toInt; omega), (by show z_40.toInt ≤ 6; omega), hF, hT, hS, lv_sub hl [0, 1, 2] rfl⟩
set_option maxHeartbeats 4000000 in
set_option maxRecDepth 100000 in
theorem t_X10_tellsYear (l : Launch) (D : va_G) (cy : Nat → ClassId) (base : Nat) (τ : Nat → Nat) (G : Gh) (a : Nat) (h_a : τ a = 11) : MM l yX10_tellsYear cX10_tellsYear 2 none 0 0 0 D cy [.ref a] (PT D cy base τ G) (QT D cy base τ G [76, 77] (fun v g => v = none ∧ (True))) (RA base) := by
  refine MM.of (by decide) (Nat.le_of_ble_eq_true rfl) ?_
  intro p e s m below meth c C hPT ls hl
  obtain ⟨hx, hb, hr, hml, hown, hts, hlocks, hK, hnm⟩ := C
  obtain ⟨hZ, hT⟩ := hPT
  have hS : va_S (RA base) s.heap s.heap [] := va_S.rf
  have hF : Fr τ [76, 77] G G := Fr.rf
  have hl : lv_has ls 2 [(0, .ref a)] := hl
  refine lv_iconst (v := 0) hx hb dX10_tellsYear_0 (by decide) ?_
  refine lv_istore_n (lv' := [(1, .int 0), (0, .ref a)]) hx hb dX10_tellsYear_1 rfl hl (by decide) rfl (fun ls hl => ?_)
  refine W.loop (σ := Int32 × Gh) (fun w1 H locs ls => 0 ≤ w1.1.toInt ∧ w1.1.toInt ≤ 6 ∧ Fr τ [76, 77] G w1.2 ∧ TY D cy base τ w1.2 H ∧ va_S (RA base) s.heap H locs ∧ lv_has ls 2 [(1, .int w1.1), (0, .ref a)]) (fun w1 => (6 - w1.1.toInt).toNat) ?_ ((0 : Int32), G) _ _ _ ⟨(by show 0 ≤ (0 : Int32).toInt; decide), (by show (0 : Int32).toInt ≤ 6; decide), hF, hT, hS, lv_sub hl [0, 1] rfl⟩
  intro w1 H locs ls hI ih1
  obtain ⟨x1_1, G_1⟩ := w1
  obtain ⟨i1_0, i1_1, hF, hT, hS, hl⟩ := hI
  have i1_0 : 0 ≤ x1_1.toInt := i1_0
  have i1_1 : x1_1.toInt ≤ 6 := i1_1
  have hF : Fr τ [76, 77] G G_1 := hF
  have hT : TY D cy base τ G_1 H := hT
  have hS : va_S (RA base) s.heap H locs := hS
  have hl : lv_has ls 2 [(1, .int x1_1), (0, .ref a)] := hl
  refine lv_iload_n hx hb dX10_tellsYear_2 rfl (lv_at hl 0 rfl) ?_
  refine lv_bipush (v := 6) hx hb dX10_tellsYear_3 (by decide) ?_
  refine lv_icmp_ge (tgt := 26) hx hb dX10_tellsYear_5 (by decide) (fun c_2 => ?_) (fun c_2 => ?_)
  · skip
    have tc_2 : 6 ≤ x1_1.toInt := (fa_le _ _).mp c_2
    refine lv_aload_n hx hb dX10_tellsYear_26 rfl (lv_at hl 1 rfl) ?_
    refine t_getr cf_11 hx hb hts hown hK hT h_a (k := 26) (P := fun q => τ q = 76) rfl (fun _ h9 => h9) fl_X10_62 (fun _ h9 => h9) dX10_tellsYear_27 (fun q_3 eq_3 hq_3 => ?_)
    have eq_3 := (hF.r h_a (by decide) rfl _).symm.trans eq_3
    refine lv_iconst (v := 0) hx hb dX10_tellsYear_30 (by decide) ?_
    refine lv_iconst (v := 1) hx hb dX10_tellsYear_31 (by decide) ?_
    refine t_iast (n := 5) (i := 0) (x := 1) rfl (by decide) hx hb hK hT hS hq_3 (hT.len hq_3 (by decide)) ⟨by decide, by decide⟩ trivial dX10_tellsYear_32 (fun H locs G_4 eG_4 hT hS => ?_)
    have hF := hF.wI eG_4 hq_3 rfl
    exact ret_v hx hb hr hlocks ⟨⟨hS.1, hS.2.1⟩, G_4, hF, ⟨rfl, trivial⟩, hT⟩ hS.2.2 (Nat.le_of_ble_eq_true rfl) (Nat.le_of_ble_eq_true rfl) dX10_tellsYear_33
  · skip
    have tc_2 : ¬ 6 ≤ x1_1.toInt := fun h => c_2 ((fa_le _ _).mpr h)
    refine lv_aload_n hx hb dX10_tellsYear_8 rfl (lv_at hl 1 rfl) ?_
    refine t_getr cf_11 hx hb hts hown hK hT h_a (k := 27) (P := fun q => τ q = 77) rfl (fun _ h9 => h9) fl_X10_65 (fun _ h9 => h9) dX10_tellsYear_9 (fun q_5 eq_5 hq_5 => ?_)
    have eq_5 := (hF.r h_a (by decide) rfl _).symm.trans eq_5
    refine lv_iload_n hx hb dX10_tellsYear_12 rfl (lv_at hl 0 rfl) ?_
    refine lv_aload_n hx hb dX10_tellsYear_13 rfl (lv_at hl 1 rfl) ?_
    refine t_getr cf_11 hx hb hts hown hK hT h_a (k := 41) (P := fun q => τ q = 91) rfl (fun _ h9 => h9) fl_X10_108 (fun _ h9 => h9) dX10_tellsYear_14 (fun q_6 eq_6 hq_6 => ?_)
    have eq_6 := (hF.r h_a (by decide) rfl _).symm.trans eq_6
    refine lv_iload_n hx hb dX10_tellsYear_17 rfl (lv_at hl 0 rfl) ?_
    refine t_iald (n := 6) (i := x1_1) rfl (by decide) hx hb hK hT hq_6 (hT.len hq_6 (by decide)) ⟨by omega, by omega⟩ dX10_tellsYear_18 (fun z_7 ez_7 rz_7 => ?_)
    have ez_7 : z_7 = G.1 q_6 x1_1.toNatClampNeg := ez_7.trans (hF.i hq_6 (by decide) rfl _)
    refine t_iast (n := 30) (i := x1_1) (x := z_7) rfl (by decide) hx hb hK hT hS hq_5 (hT.len hq_5 (by decide)) ⟨by omega, by omega⟩ trivial dX10_tellsYear_19 (fun H locs G_8 eG_8 hT hS => ?_)
    have hF := hF.wI eG_8 hq_5 rfl
    obtain ⟨z_9, ez_9⟩ : ∃ y : Int32, y = x1_1 + 1 := ⟨_, rfl⟩
    have tz_9 : z_9.toInt = x1_1.toInt + 1 := add_t ez_9 (show -2147483648 ≤ x1_1.toInt + 1 by omega) (show x1_1.toInt + 1 < 2147483648 by omega)
    refine lv_iinc (v := z_9) (lv' := [(1, .int z_9), (0, .ref a)]) hx hb dX10_tellsYear_20 hl (k := 0) rfl (by rw [ez_9]; rfl) (by decide) rfl (fun ls hl => ?_)
    refine lv_goto (tgt := 2) hx hb dX10_tellsYear_23 (by decide) ?_
    exact ih1 (z_9, G_8) _ _ _ (by show (6 - z_9.toInt).toNat < (6 - x1_1.toInt).toNat; omega) ⟨(by show 0 ≤ z_9.toInt; omega), (by show z_9.toInt ≤ 6; omega), hF, hT, hS, lv_sub hl [0, 1] rfl⟩
set_option maxHeartbeats 4000000 in
set_option maxRecDepth 100000 in
theorem t_X10_run (l : Launch) (D : va_G) (cy : Nat → ClassId) (base : Nat) (τ : Nat → Nat) (G : Gh) (a : Nat) (h_a : τ a = 11) (v0 : Int32) : MM l yX10_run cX10_run 3 (some .int) 2 0 0 D cy [.ref a, .int v0] (PT D cy base τ G) (QT D cy base τ G [11, 76, 77, 91] (fun v g => ∃ r : Int32, v = some (.int r) ∧ (True))) (RA base) := by
  refine MM.of (by decide) (Nat.le_of_ble_eq_true rfl) ?_
  intro p e s m below meth c C hPT ls hl
  obtain ⟨hx, hb, hr, hml, hown, hts, hlocks, hK, hnm⟩ := C
  obtain ⟨hZ, hT⟩ := hPT
  have hS : va_S (RA base) s.heap s.heap [] := va_S.rf
  have hF : Fr τ [11, 76, 77, 91] G G := Fr.rf
  have hl : lv_has ls 3 [(0, .ref a), (1, .int v0)] := hl
  refine lv_aload_n hx hb dX10_run_0 rfl (lv_at hl 0 rfl) ?_
  refine lv_iconst (v := 0) hx hb dX10_run_1 (by decide) ?_
  refine t_puti (x := 0) cf_11 hx hb hts hown hK hT hS h_a (k := 0) rfl trivial fl_X10_111 (fun _ h9 => h9) rfl rfl rfl dX10_run_2 (fun H locs G_1 eG_1 hT hS => ?_)
  have hF := hF.wI eG_1 h_a rfl
  refine lv_iload_n hx hb dX10_run_5 rfl (lv_at hl 1 rfl) ?_
  refine pu_calli (runS (As := [.int v0]) (rest := []) ⟨hx, hb, hml, hown, hts⟩ (t_X10_isSeed l D cy base τ G_1 v0) sS_X10_492 hK ⟨Nat.le_trans hZ hS.1, hT⟩ ⟨Nat.le_of_ble_eq_true rfl, Nat.le_of_ble_eq_true rfl⟩ rfl hl.1 rfl (Nat.le_of_ble_eq_true rfl) dX10_run_6 ⟨Nat.le_of_ble_eq_true rfl, Nat.le_of_ble_eq_true rfl⟩) (fun r_2 hr_2 => ?_)
  have hr_2_c := hr_2
  rcases hr_2_c with hr_2_0 | hr_2_1
  · skip
    obtain ⟨er_2, hr_2_0_f0, hr_2_0_f1⟩ := hr_2_0
    have hr_2_0_f0 : 0 ≤ v0.toInt := hr_2_0_f0
    have hr_2_0_f1 : v0.toInt ≤ 2000000000 := hr_2_0_f1
    subst er_2
    refine W.eq (g2 := F0 m 9 ls [.int 1]) rfl ?_
    refine lv_if_eq (tgt := 19) hx hb dX10_run_9 (by decide) (fun c_3 => absurd c_3 (by decide)) (fun _ => ?_)
    refine lv_aload_n hx hb dX10_run_12 rfl (lv_at hl 0 rfl) ?_
    obtain ⟨q_4, eq_4, hq_4⟩ := (show ∃ q, G_1.2.2.1 a 17 = some q ∧ τ q = 67 from hT.rgr h_a (by decide) 17)
    have eq_4 := (hF.r h_a (by decide) rfl _).symm.trans eq_4
    obtain ⟨z_5, ez_5⟩ : ∃ y : Int32, y = G_1.1 q_4 0 := ⟨_, rfl⟩
    have qz_5 : (0 % 4 = 0 → 0 ≤ z_5.toInt ∧ z_5.toInt ≤ 60) := by rw [ez_5]; exact hT.rgi hq_4 (by decide) 0
    have rz_5 : 0 ≤ z_5.toInt ∧ z_5.toInt ≤ 60 := by omega
    have ez_5 : z_5 = G.1 q_4 0 := ez_5.trans (hF.i hq_4 (by decide) rfl _)
    refine pu_calli (runV (As := []) (rest := []) ⟨hx, hb, hml, hown, hts⟩ (t_X10_lastDay l D cy base τ G_1 a h_a q_4 hq_4 ((hF.r h_a (by decide) rfl _).trans eq_4) z_5 (ez_5.trans (hF.i hq_4 (by decide) rfl _).symm) ⟨by omega, by omega⟩) sV_X10_278 hK (t_recv cf_11 hK hT h_a) ⟨Nat.le_trans hZ hS.1, hT⟩ ⟨Nat.le_of_ble_eq_true rfl, Nat.le_of_ble_eq_true rfl⟩ rfl hl.1 rfl (Nat.le_of_ble_eq_true rfl) dX10_run_13 ⟨Nat.le_of_ble_eq_true rfl, Nat.le_of_ble_eq_true rfl⟩) (fun r_6 hr_6 => ?_)
    have er_6 := hr_6
    have er_6 := er_6.symm
    subst er_6
    refine W.eq (g2 := F0 m 16 ls [.int z_5]) rfl ?_
    refine lv_if_ne (tgt := 22) hx hb dX10_run_16 (by decide) (fun c_7 => ?_) (fun c_7 => ?_)
    · skip
      have tc_7 : ¬ z_5.toInt = 0 := fun h => c_7 ((fa_eq _ _).mpr h)
      refine lv_aload_n hx hb dX10_run_22 rfl (lv_at hl 0 rfl) ?_
      refine lv_iload_n hx hb dX10_run_23 rfl (lv_at hl 1 rfl) ?_
      refine lv_i2l hx hb dX10_run_24 rfl ?_
      refine lv_topl (fun z_8 ez_8 => ?_)
      have tz_8 : z_8.toInt = v0.toInt := by rw [ez_8]; exact wide_t v0
      refine t_calli (runV (As := [.long z_8]) (rest := []) ⟨hx, hb, hml, hown, hts⟩ (t_X10_draws l D cy base τ G_1 a h_a z_8) sV_X10_495 hK (t_recv cf_11 hK hT h_a) ⟨Nat.le_trans hZ hS.1, hT⟩ ⟨Nat.le_of_ble_eq_true rfl, Nat.le_of_ble_eq_true rfl⟩ rfl hl.1 rfl (Nat.le_of_ble_eq_true rfl) dX10_run_25 ⟨Nat.le_of_ble_eq_true rfl, Nat.le_of_ble_eq_true rfl⟩) hS (fun r_9 G_9 H locs hF_9 hr_9 hT hS => ?_)
      have hF := hF.tr hF_9 rfl
      refine lv_istore_n (lv' := [(2, .int r_9), (0, .ref a), (1, .int v0)]) hx hb dX10_run_28 rfl hl (by decide) rfl (fun ls hl => ?_)
      refine lv_aload_n hx hb dX10_run_29 rfl (lv_at hl 1 rfl) ?_
      refine t_callv (runV (As := []) (rest := []) ⟨hx, hb, hml, hown, hts⟩ (t_X10_tellsYear l D cy base τ G_9 a h_a) sV_X10_499 hK (t_recv cf_11 hK hT h_a) ⟨Nat.le_trans hZ hS.1, hT⟩ ⟨Nat.le_of_ble_eq_true rfl, Nat.le_of_ble_eq_true rfl⟩ rfl hl.1 rfl (Nat.le_of_ble_eq_true rfl) dX10_run_30 ⟨Nat.le_of_ble_eq_true rfl, Nat.le_of_ble_eq_true rfl⟩) hS (fun G_10 H locs hF_10 hr_10 hT hS => ?_)
      have hF := hF.tr hF_10 rfl
      refine lv_iload_n hx hb dX10_run_33 rfl (lv_at hl 0 rfl) ?_
      exact ret_i hx hb hr hlocks ⟨⟨hS.1, hS.2.1⟩, G_10, hF, ⟨_, rfl, trivial⟩, hT⟩ hS.2.2 (Nat.le_of_ble_eq_true rfl) (Nat.le_of_ble_eq_true rfl) dX10_run_34
    · skip
      have tc_7 : z_5.toInt = 0 := (fa_eq _ _).mp c_7
      refine lv_bipush (v := (-2)) hx hb dX10_run_19 (by decide) ?_
      exact ret_i hx hb hr hlocks ⟨⟨hS.1, hS.2.1⟩, G_1, hF, ⟨_, rfl, trivial⟩, hT⟩ hS.2.2 (Nat.le_of_ble_eq_true rfl) (Nat.le_of_ble_eq_true rfl) dX10_run_21
  · skip
    have er_2 := hr_2_1
    subst er_2
    refine W.eq (g2 := F0 m 9 ls [.int 0]) rfl ?_
    refine lv_if_eq (tgt := 19) hx hb dX10_run_9 (by decide) (fun _ => ?_) (fun c_11 => absurd (by decide) c_11)
    refine lv_bipush (v := (-2)) hx hb dX10_run_19 (by decide) ?_
    exact ret_i hx hb hr hlocks ⟨⟨hS.1, hS.2.1⟩, G_1, hF, ⟨_, rfl, trivial⟩, hT⟩ hS.2.2 (Nat.le_of_ble_eq_true rfl) (Nat.le_of_ble_eq_true rfl) dX10_run_21
set_option maxHeartbeats 4000000 in
set_option maxRecDepth 100000 in
theorem t_X10_told (l : Launch) (D : va_G) (cy : Nat → ClassId) (base : Nat) (τ : Nat → Nat) (G : Gh) (a : Nat) (h_a : τ a = 11) (v0 : Int32) : MM l yX10_told cX10_told 5 (some .int) 2 0 0 D cy [.ref a, .int v0] (PT D cy base τ G) (QT D cy base τ G [11, 76, 77, 91] (fun v g => ∃ r : Int32, v = some (.int r) ∧ (True))) (RA base) := by
  refine MM.of (by decide) (Nat.le_of_ble_eq_true rfl) ?_
  intro p e s m below meth c C hPT ls hl
  obtain ⟨hx, hb, hr, hml, hown, hts, hlocks, hK, hnm⟩ := C
  obtain ⟨hZ, hT⟩ := hPT
  have hS : va_S (RA base) s.heap s.heap [] := va_S.rf
  have hF : Fr τ [11, 76, 77, 91] G G := Fr.rf
  have hl : lv_has ls 5 [(0, .ref a), (1, .int v0)] := hl
  refine lv_aload_n hx hb dX10_told_0 rfl (lv_at hl 0 rfl) ?_
  refine lv_iconst (v := 0) hx hb dX10_told_1 (by decide) ?_
  refine t_puti (x := 0) cf_11 hx hb hts hown hK hT hS h_a (k := 0) rfl trivial fl_X10_111 (fun _ h9 => h9) rfl rfl rfl dX10_told_2 (fun H locs G_1 eG_1 hT hS => ?_)
  have hF := hF.wI eG_1 h_a rfl
  refine lv_iload_n hx hb dX10_told_5 rfl (lv_at hl 1 rfl) ?_
  refine pu_calli (runS (As := [.int v0]) (rest := []) ⟨hx, hb, hml, hown, hts⟩ (t_X10_isSlot l D cy base τ G_1 v0) sS_X10_120 hK ⟨Nat.le_trans hZ hS.1, hT⟩ ⟨Nat.le_of_ble_eq_true rfl, Nat.le_of_ble_eq_true rfl⟩ rfl hl.1 rfl (Nat.le_of_ble_eq_true rfl) dX10_told_6 ⟨Nat.le_of_ble_eq_true rfl, Nat.le_of_ble_eq_true rfl⟩) (fun r_2 hr_2 => ?_)
  have hr_2_c := hr_2
  rcases hr_2_c with hr_2_0 | hr_2_1
  · skip
    obtain ⟨er_2, hr_2_0_f0, hr_2_0_f1⟩ := hr_2_0
    have hr_2_0_f0 : 0 ≤ v0.toInt := hr_2_0_f0
    have hr_2_0_f1 : v0.toInt ≤ 3 := hr_2_0_f1
    subst er_2
    refine W.eq (g2 := F0 m 9 ls [.int 1]) rfl ?_
    refine lv_if_eq (tgt := 19) hx hb dX10_told_9 (by decide) (fun c_3 => absurd c_3 (by decide)) (fun _ => ?_)
    refine lv_aload_n hx hb dX10_told_12 rfl (lv_at hl 0 rfl) ?_
    obtain ⟨q_4, eq_4, hq_4⟩ := (show ∃ q, G_1.2.2.1 a 17 = some q ∧ τ q = 67 from hT.rgr h_a (by decide) 17)
    have eq_4 := (hF.r h_a (by decide) rfl _).symm.trans eq_4
    obtain ⟨z_5, ez_5⟩ : ∃ y : Int32, y = G_1.1 q_4 0 := ⟨_, rfl⟩
    have qz_5 : (0 % 4 = 0 → 0 ≤ z_5.toInt ∧ z_5.toInt ≤ 60) := by rw [ez_5]; exact hT.rgi hq_4 (by decide) 0
    have rz_5 : 0 ≤ z_5.toInt ∧ z_5.toInt ≤ 60 := by omega
    have ez_5 : z_5 = G.1 q_4 0 := ez_5.trans (hF.i hq_4 (by decide) rfl _)
    refine pu_calli (runV (As := []) (rest := []) ⟨hx, hb, hml, hown, hts⟩ (t_X10_lastDay l D cy base τ G_1 a h_a q_4 hq_4 ((hF.r h_a (by decide) rfl _).trans eq_4) z_5 (ez_5.trans (hF.i hq_4 (by decide) rfl _).symm) ⟨by omega, by omega⟩) sV_X10_278 hK (t_recv cf_11 hK hT h_a) ⟨Nat.le_trans hZ hS.1, hT⟩ ⟨Nat.le_of_ble_eq_true rfl, Nat.le_of_ble_eq_true rfl⟩ rfl hl.1 rfl (Nat.le_of_ble_eq_true rfl) dX10_told_13 ⟨Nat.le_of_ble_eq_true rfl, Nat.le_of_ble_eq_true rfl⟩) (fun r_6 hr_6 => ?_)
    have er_6 := hr_6
    have er_6 := er_6.symm
    subst er_6
    refine W.eq (g2 := F0 m 16 ls [.int z_5]) rfl ?_
    refine lv_if_ne (tgt := 22) hx hb dX10_told_16 (by decide) (fun c_7 => ?_) (fun c_7 => ?_)
    · skip
      have tc_7 : ¬ z_5.toInt = 0 := fun h => c_7 ((fa_eq _ _).mpr h)
      refine lv_aload_n hx hb dX10_told_22 rfl (lv_at hl 0 rfl) ?_
      refine t_getr cf_11 hx hb hts hown hK hT h_a (k := 1) (P := fun q => τ q = 51) rfl (fun _ h9 => h9) fl_X10_7 (fun _ h9 => h9) dX10_told_23 (fun q_8 eq_8 hq_8 => ?_)
      have eq_8 := (hF.r h_a (by decide) rfl _).symm.trans eq_8
      refine lv_iload_n hx hb dX10_told_26 rfl (lv_at hl 1 rfl) ?_
      refine t_iald (n := 4) (i := v0) rfl (by decide) hx hb hK hT hq_8 (hT.len hq_8 (by decide)) ⟨by omega, by omega⟩ dX10_told_27 (fun z_9 ez_9 rz_9 => ?_)
      have rz_9 : -1 ≤ z_9.toInt ∧ z_9.toInt ≤ 3 := rz_9
      have ez_9 : z_9 = G.1 q_8 v0.toNatClampNeg := ez_9.trans (hF.i hq_8 (by decide) rfl _)
      refine lv_iconst (v := (-1)) hx hb dX10_told_28 (by decide) ?_
      refine lv_icmp_ne (tgt := 35) hx hb dX10_told_29 (by decide) (fun c_10 => ?_) (fun c_10 => ?_)
      · skip
        have tc_10 : ¬ z_9.toInt = -1 := fun h => c_10 ((fa_eq _ _).mpr h)
        refine lv_aload_n hx hb dX10_told_35 rfl (lv_at hl 0 rfl) ?_
        refine t_getr cf_11 hx hb hts hown hK hT h_a (k := 2) (P := fun q => τ q = 52) rfl (fun _ h9 => h9) fl_X10_13 (fun _ h9 => h9) dX10_told_36 (fun q_11 eq_11 hq_11 => ?_)
        have eq_11 := (hF.r h_a (by decide) rfl _).symm.trans eq_11
        refine lv_iload_n hx hb dX10_told_39 rfl (lv_at hl 1 rfl) ?_
        refine t_iald (n := 4) (i := v0) rfl (by decide) hx hb hK hT hq_11 (hT.len hq_11 (by decide)) ⟨by omega, by omega⟩ dX10_told_40 (fun z_12 ez_12 rz_12 => ?_)
        have rz_12 : 0 ≤ z_12.toInt ∧ z_12.toInt ≤ 60 := rz_12
        have ez_12 : z_12 = G.1 q_11 v0.toNatClampNeg := ez_12.trans (hF.i hq_11 (by decide) rfl _)
        refine lv_aload_n hx hb dX10_told_41 rfl (lv_at hl 0 rfl) ?_
        refine pu_calli (runV (As := []) (rest := [.int z_12]) ⟨hx, hb, hml, hown, hts⟩ (t_X10_lastDay l D cy base τ G_1 a h_a q_4 hq_4 ((hF.r h_a (by decide) rfl _).trans eq_4) z_5 (ez_5.trans (hF.i hq_4 (by decide) rfl _).symm) ⟨by omega, by omega⟩) sV_X10_278 hK (t_recv cf_11 hK hT h_a) ⟨Nat.le_trans hZ hS.1, hT⟩ ⟨Nat.le_of_ble_eq_true rfl, Nat.le_of_ble_eq_true rfl⟩ rfl hl.1 rfl (Nat.le_of_ble_eq_true rfl) dX10_told_42 ⟨Nat.le_of_ble_eq_true rfl, Nat.le_of_ble_eq_true rfl⟩) (fun r_13 hr_13 => ?_)
        have er_13 := hr_13
        have er_13 := er_13.symm
        subst er_13
        refine W.eq (g2 := F0 m 45 ls [.int z_5, .int z_12]) rfl ?_
        refine lv_icmp_le (tgt := 51) hx hb dX10_told_45 (by decide) (fun c_14 => ?_) (fun c_14 => ?_)
        · skip
          have tc_14 : z_12.toInt ≤ z_5.toInt := (fa_le _ _).mp c_14
          refine lv_iconst (v := 0) hx hb dX10_told_51 (by decide) ?_
          refine lv_istore_n (lv' := [(2, .int 0), (0, .ref a), (1, .int v0)]) hx hb dX10_told_52 rfl hl (by decide) rfl (fun ls hl => ?_)
          refine W.loop (σ := Int32 × Gh) (fun w15 H locs ls => 0 ≤ w15.1.toInt ∧ w15.1.toInt ≤ 60 ∧ Fr τ [11, 76, 77, 91] G w15.2 ∧ TY D cy base τ w15.2 H ∧ va_S (RA base) s.heap H locs ∧ lv_has ls 5 [(2, .int w15.1), (0, .ref a), (1, .int v0)]) (fun w15 => (60 - w15.1.toInt).toNat) ?_ ((0 : Int32), G_1) _ _ _ ⟨(by show 0 ≤ (0 : Int32).toInt; decide), (by show (0 : Int32).toInt ≤ 60; decide), hF, hT, hS, lv_sub hl [0, 1, 2] rfl⟩
          intro w15 H locs ls hI ih15
          obtain ⟨x15_2, G_15⟩ := w15
          obtain ⟨i15_0, i15_1, hF, hT, hS, hl⟩ := hI
          have i15_0 : 0 ≤ x15_2.toInt := i15_0
          have i15_1 : x15_2.toInt ≤ 60 := i15_1
          have hF : Fr τ [11, 76, 77, 91] G G_15 := hF
          have hT : TY D cy base τ G_15 H := hT
          have hS : va_S (RA base) s.heap H locs := hS
          have hl : lv_has ls 5 [(2, .int x15_2), (0, .ref a), (1, .int v0)] := hl
          refine lv_iload_n hx hb dX10_told_53 rfl (lv_at hl 0 rfl) ?_
          refine lv_aload_n hx hb dX10_told_54 rfl (lv_at hl 1 rfl) ?_
          refine t_getr cf_11 hx hb hts hown hK hT h_a (k := 2) (P := fun q => τ q = 52) rfl (fun _ h9 => h9) fl_X10_13 (fun _ h9 => h9) dX10_told_55 (fun q_16 eq_16 hq_16 => ?_)
          have w_17 : q_11 = q_16 := Option.some.inj (eq_11.symm.trans ((hF.r h_a (by decide) rfl _).symm.trans eq_16))
          subst w_17
          refine lv_iload_n hx hb dX10_told_58 rfl (lv_at hl 2 rfl) ?_
          refine t_iald (n := 4) (i := v0) rfl (by decide) hx hb hK hT hq_11 (hT.len hq_11 (by decide)) ⟨by omega, by omega⟩ dX10_told_59 (fun z_18 ez_18 rz_18 => ?_)
          have w_19 : z_12 = z_18 := ez_12.trans (ez_18.trans (hF.i hq_11 (by decide) rfl _)).symm
          subst w_19
          refine lv_icmp_ge (tgt := 100) hx hb dX10_told_60 (by decide) (fun c_20 => ?_) (fun c_20 => ?_)
          · skip
            have tc_20 : z_12.toInt ≤ x15_2.toInt := (fa_le _ _).mp c_20
            refine lv_iconst (v := 0) hx hb dX10_told_100 (by decide) ?_
            refine lv_istore_n (lv' := [(2, .int 0), (0, .ref a), (1, .int v0)]) hx hb dX10_told_101 rfl hl (by decide) rfl (fun ls hl => ?_)
            refine W.loop (σ := Int32 × Gh) (fun w21 H locs ls => 0 ≤ w21.1.toInt ∧ w21.1.toInt ≤ 6 ∧ Fr τ [11, 76, 77, 91] G w21.2 ∧ TY D cy base τ w21.2 H ∧ va_S (RA base) s.heap H locs ∧ lv_has ls 5 [(2, .int w21.1), (0, .ref a), (1, .int v0)]) (fun w21 => (6 - w21.1.toInt).toNat) ?_ ((0 : Int32), G_15) _ _ _ ⟨(by show 0 ≤ (0 : Int32).toInt; decide), (by show (0 : Int32).toInt ≤ 6; decide), hF, hT, hS, lv_sub hl [0, 1, 2] rfl⟩
            intro w21 H locs ls hI ih21
            obtain ⟨x21_2, G_21⟩ := w21
            obtain ⟨i21_0, i21_1, hF, hT, hS, hl⟩ := hI
            have i21_0 : 0 ≤ x21_2.toInt := i21_0
            have i21_1 : x21_2.toInt ≤ 6 := i21_1
            have hF : Fr τ [11, 76, 77, 91] G G_21 := hF
            have hT : TY D cy base τ G_21 H := hT
            have hS : va_S (RA base) s.heap H locs := hS
            have hl : lv_has ls 5 [(2, .int x21_2), (0, .ref a), (1, .int v0)] := hl
            refine lv_iload_n hx hb dX10_told_102 rfl (lv_at hl 0 rfl) ?_
            refine lv_bipush (v := 6) hx hb dX10_told_103 (by decide) ?_
            refine lv_icmp_ge (tgt := 121) hx hb dX10_told_105 (by decide) (fun c_22 => ?_) (fun c_22 => ?_)
            · skip
              have tc_22 : 6 ≤ x21_2.toInt := (fa_le _ _).mp c_22
              refine lv_iconst (v := 0) hx hb dX10_told_121 (by decide) ?_
              refine lv_istore_n (lv' := [(2, .int 0), (0, .ref a), (1, .int v0)]) hx hb dX10_told_122 rfl hl (by decide) rfl (fun ls hl => ?_)
              refine lv_iconst (v := 0) hx hb dX10_told_123 (by decide) ?_
              refine lv_istore_n (lv' := [(3, .int 0), (2, .int 0), (0, .ref a), (1, .int v0)]) hx hb dX10_told_124 rfl hl (by decide) rfl (fun ls hl => ?_)
              refine W.loop (σ := Int32 × Int32 × Gh) (fun w23 H locs ls => 0 ≤ w23.2.1.toInt ∧ w23.2.1.toInt ≤ 60 ∧ Fr τ [11, 76, 77, 91] G w23.2.2 ∧ TY D cy base τ w23.2.2 H ∧ va_S (RA base) s.heap H locs ∧ lv_has ls 5 [(2, .int w23.1), (3, .int w23.2.1), (0, .ref a), (1, .int v0)]) (fun w23 => (60 - w23.2.1.toInt).toNat) ?_ ((0 : Int32), (0 : Int32), G_21) _ _ _ ⟨(by show 0 ≤ (0 : Int32).toInt; decide), (by show (0 : Int32).toInt ≤ 60; decide), hF, hT, hS, lv_sub hl [1, 0, 2, 3] rfl⟩
              intro w23 H locs ls hI ih23
              obtain ⟨x23_2, x23_3, G_23⟩ := w23
              obtain ⟨i23_0, i23_1, hF, hT, hS, hl⟩ := hI
              have i23_0 : 0 ≤ x23_3.toInt := i23_0
              have i23_1 : x23_3.toInt ≤ 60 := i23_1
              have hF : Fr τ [11, 76, 77, 91] G G_23 := hF
              have hT : TY D cy base τ G_23 H := hT
              have hS : va_S (RA base) s.heap H locs := hS
              have hl : lv_has ls 5 [(2, .int x23_2), (3, .int x23_3), (0, .ref a), (1, .int v0)] := hl
              refine lv_iload_n hx hb dX10_told_125 rfl (lv_at hl 1 rfl) ?_
              refine lv_aload_n hx hb dX10_told_126 rfl (lv_at hl 2 rfl) ?_
              refine t_getr cf_11 hx hb hts hown hK hT h_a (k := 2) (P := fun q => τ q = 52) rfl (fun _ h9 => h9) fl_X10_13 (fun _ h9 => h9) dX10_told_127 (fun q_24 eq_24 hq_24 => ?_)
              have w_25 : q_11 = q_24 := Option.some.inj (eq_11.symm.trans ((hF.r h_a (by decide) rfl _).symm.trans eq_24))
              subst w_25
              refine lv_iload_n hx hb dX10_told_130 rfl (lv_at hl 3 rfl) ?_
              refine t_iald (n := 4) (i := v0) rfl (by decide) hx hb hK hT hq_11 (hT.len hq_11 (by decide)) ⟨by omega, by omega⟩ dX10_told_131 (fun z_26 ez_26 rz_26 => ?_)
              have w_27 : z_12 = z_26 := ez_12.trans (ez_26.trans (hF.i hq_11 (by decide) rfl _)).symm
              subst w_27
              refine lv_icmp_ge (tgt := 208) hx hb dX10_told_132 (by decide) (fun c_28 => ?_) (fun c_28 => ?_)
              · skip
                have tc_28 : z_12.toInt ≤ x23_3.toInt := (fa_le _ _).mp c_28
                refine lv_aload_n hx hb dX10_told_208 rfl (lv_at hl 2 rfl) ?_
                refine t_callv (runV (As := []) (rest := []) ⟨hx, hb, hml, hown, hts⟩ (t_X10_tellsYear l D cy base τ G_23 a h_a) sV_X10_499 hK (t_recv cf_11 hK hT h_a) ⟨Nat.le_trans hZ hS.1, hT⟩ ⟨Nat.le_of_ble_eq_true rfl, Nat.le_of_ble_eq_true rfl⟩ rfl hl.1 rfl (Nat.le_of_ble_eq_true rfl) dX10_told_209 ⟨Nat.le_of_ble_eq_true rfl, Nat.le_of_ble_eq_true rfl⟩) hS (fun G_29 H locs hF_29 hr_29 hT hS => ?_)
                have hF := hF.tr hF_29 rfl
                refine lv_iload_n hx hb dX10_told_212 rfl (lv_at hl 0 rfl) ?_
                exact ret_i hx hb hr hlocks ⟨⟨hS.1, hS.2.1⟩, G_29, hF, ⟨_, rfl, trivial⟩, hT⟩ hS.2.2 (Nat.le_of_ble_eq_true rfl) (Nat.le_of_ble_eq_true rfl) dX10_told_213
              · skip
                have tc_28 : ¬ z_12.toInt ≤ x23_3.toInt := fun h => c_28 ((fa_le _ _).mpr h)
                refine lv_iconst (v := 0) hx hb dX10_told_135 (by decide) ?_
                refine lv_istore (lv' := [(4, .int 0), (2, .int x23_2), (3, .int x23_3), (0, .ref a), (1, .int v0)]) hx hb dX10_told_136 hl (by decide) rfl (fun ls hl => ?_)
                refine W.loop (σ := Int32 × Int32 × Gh) (fun w30 H locs ls => 0 ≤ w30.2.1.toInt ∧ w30.2.1.toInt ≤ 6 ∧ Fr τ [11, 76, 77, 91] G w30.2.2 ∧ TY D cy base τ w30.2.2 H ∧ va_S (RA base) s.heap H locs ∧ lv_has ls 5 [(2, .int w30.1), (4, .int w30.2.1), (3, .int x23_3), (0, .ref a), (1, .int v0)]) (fun w30 => (6 - w30.2.1.toInt).toNat) ?_ (x23_2, (0 : Int32), G_23) _ _ _ ⟨(by show 0 ≤ (0 : Int32).toInt; decide), (by show (0 : Int32).toInt ≤ 6; decide), hF, hT, hS, lv_sub hl [1, 0, 2, 3, 4] rfl⟩
                intro w30 H locs ls hI ih30
                obtain ⟨x30_2, x30_4, G_30⟩ := w30
                obtain ⟨i30_0, i30_1, hF, hT, hS, hl⟩ := hI
                have i30_0 : 0 ≤ x30_4.toInt := i30_0
                have i30_1 : x30_4.toInt ≤ 6 := i30_1
                have hF : Fr τ [11, 76, 77, 91] G G_30 := hF
                have hT : TY D cy base τ G_30 H := hT
                have hS : va_S (RA base) s.heap H locs := hS
                have hl : lv_has ls 5 [(2, .int x30_2), (4, .int x30_4), (3, .int x23_3), (0, .ref a), (1, .int v0)] := hl
                refine lv_iload hx hb dX10_told_138 (lv_at hl 1 rfl) ?_
                refine lv_aload_n hx hb dX10_told_140 rfl (lv_at hl 3 rfl) ?_
                refine t_getr cf_11 hx hb hts hown hK hT h_a (k := 20) (P := fun q => τ q = 70) rfl (fun _ h9 => h9) fl_X10_43 (fun _ h9 => h9) dX10_told_141 (fun q_31 eq_31 hq_31 => ?_)
                have eq_31 := (hF.r h_a (by decide) rfl _).symm.trans eq_31
                refine lv_iconst (v := 0) hx hb dX10_told_144 (by decide) ?_
                refine t_iald (n := 5) (i := 0) rfl (by decide) hx hb hK hT hq_31 (hT.len hq_31 (by decide)) ⟨by decide, by decide⟩ dX10_told_145 (fun z_32 ez_32 rz_32 => ?_)
                have ez_32 : z_32 = G_30.1 q_31 0 := ez_32
                have rz_32 : 0 ≤ z_32.toInt ∧ z_32.toInt ≤ 6 := rz_32
                have ez_32 : z_32 = G.1 q_31 0 := ez_32.trans (hF.i hq_31 (by decide) rfl _)
                refine lv_icmp_ge (tgt := 202) hx hb dX10_told_146 (by decide) (fun c_33 => ?_) (fun c_33 => ?_)
                · skip
                  have tc_33 : z_32.toInt ≤ x30_4.toInt := (fa_le _ _).mp c_33
                  obtain ⟨z_34, ez_34⟩ : ∃ y : Int32, y = x23_3 + 1 := ⟨_, rfl⟩
                  have tz_34 : z_34.toInt = x23_3.toInt + 1 := add_t ez_34 (show -2147483648 ≤ x23_3.toInt + 1 by omega) (show x23_3.toInt + 1 < 2147483648 by omega)
                  refine lv_iinc (v := z_34) (lv' := [(3, .int z_34), (2, .int x30_2), (4, .int x30_4), (0, .ref a), (1, .int v0)]) hx hb dX10_told_202 hl (k := 2) rfl (by rw [ez_34]; rfl) (by decide) rfl (fun ls hl => ?_)
                  refine lv_goto (tgt := 125) hx hb dX10_told_205 (by decide) ?_
                  exact ih23 (x30_2, z_34, G_30) _ _ _ (by show (60 - z_34.toInt).toNat < (60 - x23_3.toInt).toNat; omega) ⟨(by show 0 ≤ z_34.toInt; omega), (by show z_34.toInt ≤ 60; omega), hF, hT, hS, lv_sub hl [1, 0, 3, 4] rfl⟩
                · skip
                  have tc_33 : ¬ z_32.toInt ≤ x30_4.toInt := fun h => c_33 ((fa_le _ _).mpr h)
                  refine lv_aload_n hx hb dX10_told_149 rfl (lv_at hl 3 rfl) ?_
                  refine t_getr cf_11 hx hb hts hown hK hT h_a (k := 3) (P := fun q => τ q = 53) rfl (fun _ h9 => h9) fl_X10_16 (fun _ h9 => h9) dX10_told_150 (fun q_35 eq_35 hq_35 => ?_)
                  have eq_35 := (hF.r h_a (by decide) rfl _).symm.trans eq_35
                  refine lv_bipush (v := 60) hx hb dX10_told_153 (by decide) ?_
                  refine lv_iload_n hx hb dX10_told_155 rfl (lv_at hl 4 rfl) ?_
                  refine lv_imul hx hb dX10_told_156 ?_
                  refine lv_topi (fun z_36 ez_36 => ?_)
                  have tz_36 : z_36.toInt = 60 * v0.toInt := mul_t ez_36 (show -2147483648 ≤ 60 * v0.toInt by omega) (show 60 * v0.toInt < 2147483648 by omega)
                  refine lv_iload_n hx hb dX10_told_157 rfl (lv_at hl 2 rfl) ?_
                  refine lv_iadd hx hb dX10_told_158 ?_
                  refine lv_topi (fun z_37 ez_37 => ?_)
                  have tz_37 : z_37.toInt = z_36.toInt + x23_3.toInt := add_t ez_37 (show -2147483648 ≤ z_36.toInt + x23_3.toInt by omega) (show z_36.toInt + x23_3.toInt < 2147483648 by omega)
                  refine t_lald (n := 240) (i := z_37) rfl (by decide) hx hb hK hT hq_35 (hT.len hq_35 (by decide)) ⟨by omega, by omega⟩ dX10_told_159 (fun z_38 ez_38 => ?_)
                  have ez_38 := ez_38.trans (hF.l hq_35 (by decide) rfl _)
                  refine lv_iload hx hb dX10_told_160 (lv_at hl 1 rfl) ?_
                  refine lv_lshr hx hb dX10_told_162 rfl ?_
                  refine lv_topl (fun z_39 ez_39 => ?_)
                  refine lv_lconst (v := 1) hx hb dX10_told_163 (by decide) ?_
                  refine lv_land hx hb dX10_told_164 ?_
                  refine lv_topl (fun z_40 ez_40 => ?_)
                  refine lv_lconst (v := 0) hx hb dX10_told_165 (by decide) ?_
                  refine W.lcmp hx hb dX10_told_166 ?_
                  refine lv_topi (fun z_41 ez_41 => ?_)
                  have tz_41 : (z_41.toInt < 0 ↔ z_40.toInt < 0) ∧ (0 < z_41.toInt ↔ 0 < z_40.toInt) ∧ -1 ≤ z_41.toInt ∧ z_41.toInt ≤ 1 := cmp_t ez_41
                  refine lv_if_eq (tgt := 196) hx hb dX10_told_167 (by decide) (fun c_42 => ?_) (fun c_42 => ?_)
                  · skip
                    have tc_42 : z_41.toInt = 0 := (fa_eq _ _).mp c_42
                    obtain ⟨z_43, ez_43⟩ : ∃ y : Int32, y = x30_4 + 1 := ⟨_, rfl⟩
                    have tz_43 : z_43.toInt = x30_4.toInt + 1 := add_t ez_43 (show -2147483648 ≤ x30_4.toInt + 1 by omega) (show x30_4.toInt + 1 < 2147483648 by omega)
                    refine lv_iinc (v := z_43) (lv' := [(4, .int z_43), (2, .int x30_2), (3, .int x23_3), (0, .ref a), (1, .int v0)]) hx hb dX10_told_196 hl (k := 1) rfl (by rw [ez_43]; rfl) (by decide) rfl (fun ls hl => ?_)
                    refine lv_goto (tgt := 138) hx hb dX10_told_199 (by decide) ?_
                    exact ih30 (x30_2, z_43, G_30) _ _ _ (by show (6 - z_43.toInt).toNat < (6 - x30_4.toInt).toNat; omega) ⟨(by show 0 ≤ z_43.toInt; omega), (by show z_43.toInt ≤ 6; omega), hF, hT, hS, lv_sub hl [1, 0, 2, 3, 4] rfl⟩
                  · skip
                    have tc_42 : ¬ z_41.toInt = 0 := fun h => c_42 ((fa_eq _ _).mpr h)
                    refine lv_aload_n hx hb dX10_told_170 rfl (lv_at hl 3 rfl) ?_
                    refine t_getr cf_11 hx hb hts hown hK hT h_a (k := 41) (P := fun q => τ q = 91) rfl (fun _ h9 => h9) fl_X10_108 (fun _ h9 => h9) dX10_told_171 (fun q_44 eq_44 hq_44 => ?_)
                    have eq_44 := (hF.r h_a (by decide) rfl _).symm.trans eq_44
                    refine lv_iload hx hb dX10_told_174 (lv_at hl 1 rfl) ?_
                    refine t_iald (n := 6) (i := x30_4) rfl (by decide) hx hb hK hT hq_44 (hT.len hq_44 (by decide)) ⟨by omega, by omega⟩ dX10_told_176 (fun z_45 ez_45 rz_45 => ?_)
                    refine lv_if_eq (tgt := 183) hx hb dX10_told_177 (by decide) (fun c_46 => ?_) (fun c_46 => ?_)
                    · skip
                      have tc_46 : z_45.toInt = 0 := (fa_eq _ _).mp c_46
                      refine lv_aload_n hx hb dX10_told_183 rfl (lv_at hl 3 rfl) ?_
                      refine t_getr cf_11 hx hb hts hown hK hT h_a (k := 41) (P := fun q => τ q = 91) rfl (fun _ h9 => h9) fl_X10_108 (fun _ h9 => h9) dX10_told_184 (fun q_47 eq_47 hq_47 => ?_)
                      have w_48 : q_44 = q_47 := Option.some.inj (eq_44.symm.trans ((hF.r h_a (by decide) rfl _).symm.trans eq_47))
                      subst w_48
                      refine lv_iload hx hb dX10_told_187 (lv_at hl 1 rfl) ?_
                      refine lv_iload_n hx hb dX10_told_189 rfl (lv_at hl 2 rfl) ?_
                      refine lv_iconst (v := 1) hx hb dX10_told_190 (by decide) ?_
                      refine lv_iadd hx hb dX10_told_191 ?_
                      refine lv_topi (fun z_49 ez_49 => ?_)
                      have tz_49 : z_49.toInt = x23_3.toInt + 1 := add_t ez_49 (show -2147483648 ≤ x23_3.toInt + 1 by omega) (show x23_3.toInt + 1 < 2147483648 by omega)
                      refine t_iast (n := 6) (i := x30_4) (x := z_49) rfl (by decide) hx hb hK hT hS hq_44 (hT.len hq_44 (by decide)) ⟨by omega, by omega⟩ trivial dX10_told_192 (fun H locs G_50 eG_50 hT hS => ?_)
                      have hF := hF.wI eG_50 hq_44 rfl
                      obtain ⟨z_51, ez_51⟩ : ∃ y : Int32, y = x30_2 + 1 := ⟨_, rfl⟩
                      refine lv_iinc (v := z_51) (lv' := [(2, .int z_51), (4, .int x30_4), (3, .int x23_3), (0, .ref a), (1, .int v0)]) hx hb dX10_told_193 hl (k := 0) rfl (by rw [ez_51]; rfl) (by decide) rfl (fun ls hl => ?_)
                      obtain ⟨z_52, ez_52⟩ : ∃ y : Int32, y = x30_4 + 1 := ⟨_, rfl⟩
                      have tz_52 : z_52.toInt = x30_4.toInt + 1 := add_t ez_52 (show -2147483648 ≤ x30_4.toInt + 1 by omega) (show x30_4.toInt + 1 < 2147483648 by omega)
                      refine lv_iinc (v := z_52) (lv' := [(4, .int z_52), (2, .int z_51), (3, .int x23_3), (0, .ref a), (1, .int v0)]) hx hb dX10_told_196 hl (k := 1) rfl (by rw [ez_52]; rfl) (by decide) rfl (fun ls hl => ?_)
                      refine lv_goto (tgt := 138) hx hb dX10_told_199 (by decide) ?_
                      exact ih30 (z_51, z_52, G_50) _ _ _ (by show (6 - z_52.toInt).toNat < (6 - x30_4.toInt).toNat; omega) ⟨(by show 0 ≤ z_52.toInt; omega), (by show z_52.toInt ≤ 6; omega), hF, hT, hS, lv_sub hl [1, 0, 2, 3, 4] rfl⟩
                    · skip
                      have tc_46 : ¬ z_45.toInt = 0 := fun h => c_46 ((fa_eq _ _).mpr h)
                      refine lv_goto (tgt := 196) hx hb dX10_told_180 (by decide) ?_
                      obtain ⟨z_53, ez_53⟩ : ∃ y : Int32, y = x30_4 + 1 := ⟨_, rfl⟩
                      have tz_53 : z_53.toInt = x30_4.toInt + 1 := add_t ez_53 (show -2147483648 ≤ x30_4.toInt + 1 by omega) (show x30_4.toInt + 1 < 2147483648 by omega)
                      refine lv_iinc (v := z_53) (lv' := [(4, .int z_53), (2, .int x30_2), (3, .int x23_3), (0, .ref a), (1, .int v0)]) hx hb dX10_told_196 hl (k := 1) rfl (by rw [ez_53]; rfl) (by decide) rfl (fun ls hl => ?_)
                      refine lv_goto (tgt := 138) hx hb dX10_told_199 (by decide) ?_
                      exact ih30 (x30_2, z_53, G_30) _ _ _ (by show (6 - z_53.toInt).toNat < (6 - x30_4.toInt).toNat; omega) ⟨(by show 0 ≤ z_53.toInt; omega), (by show z_53.toInt ≤ 6; omega), hF, hT, hS, lv_sub hl [1, 0, 2, 3, 4] rfl⟩
            · skip
              have tc_22 : ¬ 6 ≤ x21_2.toInt := fun h => c_22 ((fa_le _ _).mpr h)
              refine lv_aload_n hx hb dX10_told_108 rfl (lv_at hl 1 rfl) ?_
              refine t_getr cf_11 hx hb hts hown hK hT h_a (k := 41) (P := fun q => τ q = 91) rfl (fun _ h9 => h9) fl_X10_108 (fun _ h9 => h9) dX10_told_109 (fun q_54 eq_54 hq_54 => ?_)
              have eq_54 := (hF.r h_a (by decide) rfl _).symm.trans eq_54
              refine lv_iload_n hx hb dX10_told_112 rfl (lv_at hl 0 rfl) ?_
              refine lv_iconst (v := 0) hx hb dX10_told_113 (by decide) ?_
              refine t_iast (n := 6) (i := x21_2) (x := 0) rfl (by decide) hx hb hK hT hS hq_54 (hT.len hq_54 (by decide)) ⟨by omega, by omega⟩ trivial dX10_told_114 (fun H locs G_55 eG_55 hT hS => ?_)
              have hF := hF.wI eG_55 hq_54 rfl
              obtain ⟨z_56, ez_56⟩ : ∃ y : Int32, y = x21_2 + 1 := ⟨_, rfl⟩
              have tz_56 : z_56.toInt = x21_2.toInt + 1 := add_t ez_56 (show -2147483648 ≤ x21_2.toInt + 1 by omega) (show x21_2.toInt + 1 < 2147483648 by omega)
              refine lv_iinc (v := z_56) (lv' := [(2, .int z_56), (0, .ref a), (1, .int v0)]) hx hb dX10_told_115 hl (k := 0) rfl (by rw [ez_56]; rfl) (by decide) rfl (fun ls hl => ?_)
              refine lv_goto (tgt := 102) hx hb dX10_told_118 (by decide) ?_
              exact ih21 (z_56, G_55) _ _ _ (by show (6 - z_56.toInt).toNat < (6 - x21_2.toInt).toNat; omega) ⟨(by show 0 ≤ z_56.toInt; omega), (by show z_56.toInt ≤ 6; omega), hF, hT, hS, lv_sub hl [0, 1, 2] rfl⟩
          · skip
            have tc_20 : ¬ z_12.toInt ≤ x15_2.toInt := fun h => c_20 ((fa_le _ _).mpr h)
            refine lv_aload_n hx hb dX10_told_63 rfl (lv_at hl 1 rfl) ?_
            refine t_getr cf_11 hx hb hts hown hK hT h_a (k := 3) (P := fun q => τ q = 53) rfl (fun _ h9 => h9) fl_X10_16 (fun _ h9 => h9) dX10_told_64 (fun q_57 eq_57 hq_57 => ?_)
            have eq_57 := (hF.r h_a (by decide) rfl _).symm.trans eq_57
            refine lv_bipush (v := 60) hx hb dX10_told_67 (by decide) ?_
            refine lv_iload_n hx hb dX10_told_69 rfl (lv_at hl 2 rfl) ?_
            refine lv_imul hx hb dX10_told_70 ?_
            refine lv_topi (fun z_58 ez_58 => ?_)
            have tz_58 : z_58.toInt = 60 * v0.toInt := mul_t ez_58 (show -2147483648 ≤ 60 * v0.toInt by omega) (show 60 * v0.toInt < 2147483648 by omega)
            refine lv_iload_n hx hb dX10_told_71 rfl (lv_at hl 0 rfl) ?_
            refine lv_iadd hx hb dX10_told_72 ?_
            refine lv_topi (fun z_59 ez_59 => ?_)
            have tz_59 : z_59.toInt = z_58.toInt + x15_2.toInt := add_t ez_59 (show -2147483648 ≤ z_58.toInt + x15_2.toInt by omega) (show z_58.toInt + x15_2.toInt < 2147483648 by omega)
            refine t_lald (n := 240) (i := z_59) rfl (by decide) hx hb hK hT hq_57 (hT.len hq_57 (by decide)) ⟨by omega, by omega⟩ dX10_told_73 (fun z_60 ez_60 => ?_)
            have ez_60 := ez_60.trans (hF.l hq_57 (by decide) rfl _)
            refine lv_lconst (v := 0) hx hb dX10_told_74 (by decide) ?_
            refine lv_lconst (v := 1) hx hb dX10_told_75 (by decide) ?_
            refine lv_aload_n hx hb dX10_told_76 rfl (lv_at hl 1 rfl) ?_
            refine t_getr cf_11 hx hb hts hown hK hT h_a (k := 20) (P := fun q => τ q = 70) rfl (fun _ h9 => h9) fl_X10_43 (fun _ h9 => h9) dX10_told_77 (fun q_61 eq_61 hq_61 => ?_)
            have eq_61 := (hF.r h_a (by decide) rfl _).symm.trans eq_61
            refine lv_iconst (v := 0) hx hb dX10_told_80 (by decide) ?_
            refine t_iald (n := 5) (i := 0) rfl (by decide) hx hb hK hT hq_61 (hT.len hq_61 (by decide)) ⟨by decide, by decide⟩ dX10_told_81 (fun z_62 ez_62 rz_62 => ?_)
            have ez_62 : z_62 = G_15.1 q_61 0 := ez_62
            have rz_62 : 0 ≤ z_62.toInt ∧ z_62.toInt ≤ 6 := rz_62
            have ez_62 : z_62 = G.1 q_61 0 := ez_62.trans (hF.i hq_61 (by decide) rfl _)
            refine lv_lshl hx hb dX10_told_82 rfl ?_
            refine lv_topl (fun z_63 ez_63 => ?_)
            refine lv_lconst (v := 1) hx hb dX10_told_83 (by decide) ?_
            refine lv_lsub hx hb dX10_told_84 ?_
            refine lv_topl (fun z_64 ez_64 => ?_)
            refine pu_calli (runS (As := [.long z_60, .long 0, .long z_64]) (rest := []) ⟨hx, hb, hml, hown, hts⟩ (t_X10_in l D cy base τ G_15 z_60 0 z_64) sS_X10_116 hK ⟨Nat.le_trans hZ hS.1, hT⟩ ⟨Nat.le_of_ble_eq_true rfl, Nat.le_of_ble_eq_true rfl⟩ rfl hl.1 rfl (Nat.le_of_ble_eq_true rfl) dX10_told_85 ⟨Nat.le_of_ble_eq_true rfl, Nat.le_of_ble_eq_true rfl⟩) (fun r_65 hr_65 => ?_)
            have hr_65_c := hr_65
            rcases hr_65_c with hr_65_0 | hr_65_1
            · skip
              obtain ⟨er_65, hr_65_0_f0, hr_65_0_f1⟩ := hr_65_0
              have hr_65_0_f0 : 0 ≤ z_60.toInt := hr_65_0_f0
              have hr_65_0_f1 : z_60.toInt ≤ z_64.toInt := hr_65_0_f1
              subst er_65
              refine W.eq (g2 := F0 m 88 ls [.int 1]) rfl ?_
              refine lv_if_ne (tgt := 94) hx hb dX10_told_88 (by decide) (fun _ => ?_) (fun c_66 => absurd c_66 (by decide))
              obtain ⟨z_67, ez_67⟩ : ∃ y : Int32, y = x15_2 + 1 := ⟨_, rfl⟩
              have tz_67 : z_67.toInt = x15_2.toInt + 1 := add_t ez_67 (show -2147483648 ≤ x15_2.toInt + 1 by omega) (show x15_2.toInt + 1 < 2147483648 by omega)
              refine lv_iinc (v := z_67) (lv' := [(2, .int z_67), (0, .ref a), (1, .int v0)]) hx hb dX10_told_94 hl (k := 0) rfl (by rw [ez_67]; rfl) (by decide) rfl (fun ls hl => ?_)
              refine lv_goto (tgt := 53) hx hb dX10_told_97 (by decide) ?_
              exact ih15 (z_67, G_15) _ _ _ (by show (60 - z_67.toInt).toNat < (60 - x15_2.toInt).toNat; omega) ⟨(by show 0 ≤ z_67.toInt; omega), (by show z_67.toInt ≤ 60; omega), hF, hT, hS, lv_sub hl [0, 1, 2] rfl⟩
            · skip
              have er_65 := hr_65_1
              subst er_65
              refine W.eq (g2 := F0 m 88 ls [.int 0]) rfl ?_
              refine lv_if_ne (tgt := 94) hx hb dX10_told_88 (by decide) (fun c_68 => absurd rfl c_68) (fun _ => ?_)
              refine lv_bipush (v := (-2)) hx hb dX10_told_91 (by decide) ?_
              exact ret_i hx hb hr hlocks ⟨⟨hS.1, hS.2.1⟩, G_15, hF, ⟨_, rfl, trivial⟩, hT⟩ hS.2.2 (Nat.le_of_ble_eq_true rfl) (Nat.le_of_ble_eq_true rfl) dX10_told_93
        · skip
          have tc_14 : ¬ z_12.toInt ≤ z_5.toInt := fun h => c_14 ((fa_le _ _).mpr h)
          refine lv_bipush (v := (-2)) hx hb dX10_told_48 (by decide) ?_
          exact ret_i hx hb hr hlocks ⟨⟨hS.1, hS.2.1⟩, G_1, hF, ⟨_, rfl, trivial⟩, hT⟩ hS.2.2 (Nat.le_of_ble_eq_true rfl) (Nat.le_of_ble_eq_true rfl) dX10_told_50
      · skip
        have tc_10 : z_9.toInt = -1 := (fa_eq _ _).mp c_10
        refine lv_bipush (v := (-6)) hx hb dX10_told_32 (by decide) ?_
        exact ret_i hx hb hr hlocks ⟨⟨hS.1, hS.2.1⟩, G_1, hF, ⟨_, rfl, trivial⟩, hT⟩ hS.2.2 (Nat.le_of_ble_eq_true rfl) (Nat.le_of_ble_eq_true rfl) dX10_told_34
    · skip
      have tc_7 : z_5.toInt = 0 := (fa_eq _ _).mp c_7
      refine lv_bipush (v := (-2)) hx hb dX10_told_19 (by decide) ?_
      exact ret_i hx hb hr hlocks ⟨⟨hS.1, hS.2.1⟩, G_1, hF, ⟨_, rfl, trivial⟩, hT⟩ hS.2.2 (Nat.le_of_ble_eq_true rfl) (Nat.le_of_ble_eq_true rfl) dX10_told_21
  · skip
    have er_2 := hr_2_1
    subst er_2
    refine W.eq (g2 := F0 m 9 ls [.int 0]) rfl ?_
    refine lv_if_eq (tgt := 19) hx hb dX10_told_9 (by decide) (fun _ => ?_) (fun c_69 => absurd (by decide) c_69)
    refine lv_bipush (v := (-2)) hx hb dX10_told_19 (by decide) ?_
    exact ret_i hx hb hr hlocks ⟨⟨hS.1, hS.2.1⟩, G_1, hF, ⟨_, rfl, trivial⟩, hT⟩ hS.2.2 (Nat.le_of_ble_eq_true rfl) (Nat.le_of_ble_eq_true rfl) dX10_told_21
set_option maxHeartbeats 4000000 in
set_option maxRecDepth 100000 in
theorem t_X10_shut (l : Launch) (D : va_G) (cy : Nat → ClassId) (base : Nat) (τ : Nat → Nat) (G : Gh) (a : Nat) (h_a : τ a = 11) (v0 : Int32) : MM l yX10_shut cX10_shut 2 (some .int) 2 0 0 D cy [.ref a, .int v0] (PT D cy base τ G) (QT D cy base τ G [11] (fun v g => ∃ r : Int32, v = some (.int r) ∧ (True))) (RA base) := by
  refine MM.of (by decide) (Nat.le_of_ble_eq_true rfl) ?_
  intro p e s m below meth c C hPT ls hl
  obtain ⟨hx, hb, hr, hml, hown, hts, hlocks, hK, hnm⟩ := C
  obtain ⟨hZ, hT⟩ := hPT
  have hS : va_S (RA base) s.heap s.heap [] := va_S.rf
  have hF : Fr τ [11] G G := Fr.rf
  have hl : lv_has ls 2 [(0, .ref a), (1, .int v0)] := hl
  refine lv_aload_n hx hb dX10_shut_0 rfl (lv_at hl 0 rfl) ?_
  refine lv_iconst (v := 0) hx hb dX10_shut_1 (by decide) ?_
  refine t_puti (x := 0) cf_11 hx hb hts hown hK hT hS h_a (k := 0) rfl trivial fl_X10_111 (fun _ h9 => h9) rfl rfl rfl dX10_shut_2 (fun H locs G_1 eG_1 hT hS => ?_)
  have hF := hF.wI eG_1 h_a rfl
  refine lv_aload_n hx hb dX10_shut_5 rfl (lv_at hl 0 rfl) ?_
  refine lv_iload_n hx hb dX10_shut_6 rfl (lv_at hl 1 rfl) ?_
  refine pu_calli (runV (As := [.int v0]) (rest := []) ⟨hx, hb, hml, hown, hts⟩ (t_X10_isValley l D cy base τ G_1 a h_a v0) sV_X10_297 hK (t_recv cf_11 hK hT h_a) ⟨Nat.le_trans hZ hS.1, hT⟩ ⟨Nat.le_of_ble_eq_true rfl, Nat.le_of_ble_eq_true rfl⟩ rfl hl.1 rfl (Nat.le_of_ble_eq_true rfl) dX10_shut_7 ⟨Nat.le_of_ble_eq_true rfl, Nat.le_of_ble_eq_true rfl⟩) (fun r_2 hr_2 => ?_)
  have hr_2_c := hr_2
  rcases hr_2_c with hr_2_0 | hr_2_1
  · skip
    obtain ⟨er_2, hr_2_0_f0, hr_2_0_f1⟩ := hr_2_0
    have hr_2_0_f0 : 0 ≤ v0.toInt := hr_2_0_f0
    have hr_2_0_f1 : v0.toInt ≤ 5 := hr_2_0_f1
    subst er_2
    refine W.eq (g2 := F0 m 10 ls [.int 1]) rfl ?_
    refine lv_if_ne (tgt := 18) hx hb dX10_shut_10 (by decide) (fun _ => ?_) (fun c_3 => absurd c_3 (by decide))
    refine lv_aload_n hx hb dX10_shut_18 rfl (lv_at hl 0 rfl) ?_
    refine t_getr cf_11 hx hb hts hown hK hT h_a (k := 26) (P := fun q => τ q = 76) rfl (fun _ h9 => h9) fl_X10_62 (fun _ h9 => h9) dX10_shut_19 (fun q_4 eq_4 hq_4 => ?_)
    have eq_4 := (hF.r h_a (by decide) rfl _).symm.trans eq_4
    refine lv_iconst (v := 0) hx hb dX10_shut_22 (by decide) ?_
    refine t_iald (n := 5) (i := 0) rfl (by decide) hx hb hK hT hq_4 (hT.len hq_4 (by decide)) ⟨by decide, by decide⟩ dX10_shut_23 (fun z_5 ez_5 rz_5 => ?_)
    have ez_5 : z_5 = G_1.1 q_4 0 := ez_5
    have ez_5 : z_5 = G.1 q_4 0 := ez_5.trans (hF.i hq_4 (by decide) rfl _)
    refine lv_if_ne (tgt := 31) hx hb dX10_shut_24 (by decide) (fun c_6 => ?_) (fun c_6 => ?_)
    · skip
      have tc_6 : ¬ z_5.toInt = 0 := fun h => c_6 ((fa_eq _ _).mpr h)
      refine lv_aload_n hx hb dX10_shut_31 rfl (lv_at hl 0 rfl) ?_
      refine t_getr cf_11 hx hb hts hown hK hT h_a (k := 27) (P := fun q => τ q = 77) rfl (fun _ h9 => h9) fl_X10_65 (fun _ h9 => h9) dX10_shut_32 (fun q_7 eq_7 hq_7 => ?_)
      have eq_7 := (hF.r h_a (by decide) rfl _).symm.trans eq_7
      refine lv_iload_n hx hb dX10_shut_35 rfl (lv_at hl 1 rfl) ?_
      refine t_iald (n := 30) (i := v0) rfl (by decide) hx hb hK hT hq_7 (hT.len hq_7 (by decide)) ⟨by omega, by omega⟩ dX10_shut_36 (fun z_8 ez_8 rz_8 => ?_)
      have ez_8 : z_8 = G.1 q_7 v0.toNatClampNeg := ez_8.trans (hF.i hq_7 (by decide) rfl _)
      exact ret_i hx hb hr hlocks ⟨⟨hS.1, hS.2.1⟩, G_1, hF, ⟨_, rfl, trivial⟩, hT⟩ hS.2.2 (Nat.le_of_ble_eq_true rfl) (Nat.le_of_ble_eq_true rfl) dX10_shut_37
    · skip
      have tc_6 : z_5.toInt = 0 := (fa_eq _ _).mp c_6
      refine lv_iconst (v := (-1)) hx hb dX10_shut_27 (by decide) ?_
      refine lv_goto (tgt := 37) hx hb dX10_shut_28 (by decide) ?_
      exact ret_i hx hb hr hlocks ⟨⟨hS.1, hS.2.1⟩, G_1, hF, ⟨_, rfl, trivial⟩, hT⟩ hS.2.2 (Nat.le_of_ble_eq_true rfl) (Nat.le_of_ble_eq_true rfl) dX10_shut_37
  · skip
    have er_2 := hr_2_1
    subst er_2
    refine W.eq (g2 := F0 m 10 ls [.int 0]) rfl ?_
    refine lv_if_ne (tgt := 18) hx hb dX10_shut_10 (by decide) (fun c_9 => absurd rfl c_9) (fun _ => ?_)
    refine lv_bipush (v := (-2)) hx hb dX10_shut_13 (by decide) ?_
    refine lv_goto (tgt := 37) hx hb dX10_shut_15 (by decide) ?_
    exact ret_i hx hb hr hlocks ⟨⟨hS.1, hS.2.1⟩, G_1, hF, ⟨_, rfl, trivial⟩, hT⟩ hS.2.2 (Nat.le_of_ble_eq_true rfl) (Nat.le_of_ble_eq_true rfl) dX10_shut_37
set_option maxHeartbeats 4000000 in
set_option maxRecDepth 100000 in
theorem t_X10_firstLack (l : Launch) (D : va_G) (cy : Nat → ClassId) (base : Nat) (τ : Nat → Nat) (G : Gh) (a : Nat) (h_a : τ a = 11) (v : Int32) (r_v : 0 ≤ v.toInt ∧ v.toInt ≤ 5) (w : Int32) (r_w : 0 ≤ w.toInt ∧ w.toInt ≤ 2) (y : Int32) (z : Int32) : MM l yX10_firstLack cX10_firstLack 6 (some .int) 1 0 0 D cy [.ref a, .int v, .int w, .int y, .int z] (PT D cy base τ G) (PuI (fun r => True)) noF := by
  refine MM.of (by decide) (Nat.le_of_ble_eq_true rfl) ?_
  intro p e s m below meth c C hPT ls hl
  obtain ⟨hx, hb, hr, hml, hown, hts, hlocks, hK, hnm⟩ := C
  obtain ⟨hZ, hT⟩ := hPT
  have hS : va_S (RA base) s.heap s.heap [] := va_S.rf
  have hl : lv_has ls 6 [(0, .ref a), (1, .int v), (2, .int w), (3, .int y), (4, .int z)] := hl
  refine lv_iload_n hx hb dX10_firstLack_0 rfl (lv_at hl 3 rfl) ?_
  refine lv_if_ne (tgt := 6) hx hb dX10_firstLack_1 (by decide) (fun c_1 => ?_) (fun c_1 => ?_)
  · skip
    have tc_1 : ¬ y.toInt = 0 := fun h => c_1 ((fa_eq _ _).mpr h)
    refine lv_iload_n hx hb dX10_firstLack_6 rfl (lv_at hl 3 rfl) ?_
    refine lv_iconst (v := 1) hx hb dX10_firstLack_7 (by decide) ?_
    refine lv_iadd hx hb dX10_firstLack_8 ?_
    refine lv_topi (fun z_2 ez_2 => ?_)
    refine lv_istore (lv' := [(5, .int z_2), (0, .ref a), (1, .int v), (2, .int w), (3, .int y), (4, .int z)]) hx hb dX10_firstLack_9 hl (by decide) rfl (fun ls hl => ?_)
    refine W.loop (σ := Int32) (fun w3 H locs ls => -2147483648 ≤ w3.toInt ∧ w3.toInt ≤ 2147483647 ∧ H = s.heap ∧ locs = [] ∧ lv_has ls 6 [(5, .int w3), (0, .ref a), (1, .int v), (2, .int w), (3, .int y), (4, .int z)]) (fun w3 => (61 - w3.toInt).toNat) ?_ (z_2) _ _ _ ⟨(min_t z_2), (max_t z_2), rfl, rfl, lv_sub hl [0, 1, 2, 3, 4, 5] rfl⟩
    intro w3 H locs ls hI ih3
    obtain ⟨x3_5, e9⟩ : ∃ y, y = w3 := ⟨_, rfl⟩
    subst e9
    obtain ⟨i3_0, i3_1, rfl, rfl, hl⟩ := hI
    have i3_0 : -2147483648 ≤ x3_5.toInt := i3_0
    have i3_1 : x3_5.toInt ≤ 2147483647 := i3_1
    have hl : lv_has ls 6 [(5, .int x3_5), (0, .ref a), (1, .int v), (2, .int w), (3, .int y), (4, .int z)] := hl
    refine lv_iload hx hb dX10_firstLack_11 (lv_at hl 0 rfl) ?_
    refine lv_aload_n hx hb dX10_firstLack_13 rfl (lv_at hl 1 rfl) ?_
    obtain ⟨q_4, eq_4, hq_4⟩ := (show ∃ q, G.2.2.1 a 17 = some q ∧ τ q = 67 from hT.rgr h_a (by decide) 17)
    obtain ⟨z_5, ez_5⟩ : ∃ y : Int32, y = G.1 q_4 0 := ⟨_, rfl⟩
    have qz_5 : (0 % 4 = 0 → 0 ≤ z_5.toInt ∧ z_5.toInt ≤ 60) := by rw [ez_5]; exact hT.rgi hq_4 (by decide) 0
    have rz_5 : 0 ≤ z_5.toInt ∧ z_5.toInt ≤ 60 := by omega
    refine pu_calli (runV (As := []) (rest := [.int x3_5]) ⟨hx, hb, hml, hown, hts⟩ (t_X10_lastDay l D cy base τ G a h_a q_4 hq_4 eq_4 z_5 ez_5 ⟨by omega, by omega⟩) sV_X10_278 hK (t_recv cf_11 hK hT h_a) ⟨Nat.le_trans hZ hS.1, hT⟩ ⟨Nat.le_of_ble_eq_true rfl, Nat.le_of_ble_eq_true rfl⟩ rfl hl.1 rfl (Nat.le_of_ble_eq_true rfl) dX10_firstLack_14 ⟨Nat.le_of_ble_eq_true rfl, Nat.le_of_ble_eq_true rfl⟩) (fun r_6 hr_6 => ?_)
    have er_6 := hr_6
    have er_6 := er_6.symm
    subst er_6
    refine W.eq (g2 := F0 m 17 ls [.int z_5, .int x3_5]) rfl ?_
    refine lv_icmp_gt (tgt := 45) hx hb dX10_firstLack_17 (by decide) (fun c_7 => ?_) (fun c_7 => ?_)
    · skip
      have tc_7 : z_5.toInt < x3_5.toInt := (fa_lt _ _).mp c_7
      refine lv_iconst (v := 0) hx hb dX10_firstLack_45 (by decide) ?_
      exact ret_i hx hb hr hlocks ⟨rfl, _, rfl, trivial⟩ (fun _ h => absurd h List.not_mem_nil) (Nat.le_refl _) (Nat.le_refl _) dX10_firstLack_46
    · skip
      have tc_7 : ¬ z_5.toInt < x3_5.toInt := fun h => c_7 ((fa_lt _ _).mpr h)
      refine lv_aload_n hx hb dX10_firstLack_20 rfl (lv_at hl 1 rfl) ?_
      refine lv_iload_n hx hb dX10_firstLack_21 rfl (lv_at hl 2 rfl) ?_
      refine lv_iload_n hx hb dX10_firstLack_22 rfl (lv_at hl 3 rfl) ?_
      refine pu_calli (runV (As := [.int v, .int w]) (rest := []) ⟨hx, hb, hml, hown, hts⟩ (t_X10_wantOf l D cy base τ G a h_a v ⟨by omega, by omega⟩ w ⟨by omega, by omega⟩) sV_X10_347 hK (t_recv cf_11 hK hT h_a) ⟨Nat.le_trans hZ hS.1, hT⟩ ⟨Nat.le_of_ble_eq_true rfl, Nat.le_of_ble_eq_true rfl⟩ rfl hl.1 rfl (Nat.le_of_ble_eq_true rfl) dX10_firstLack_23 ⟨Nat.le_of_ble_eq_true rfl, Nat.le_of_ble_eq_true rfl⟩) (fun r_8 hr_8 => ?_)
      obtain ⟨hr_8_lo, hr_8_hi⟩ := hr_8
      have hr_8_lo : 0 ≤ r_8.toInt := hr_8_lo
      have hr_8_hi : r_8.toInt ≤ 9 := hr_8_hi
      refine lv_iload hx hb dX10_firstLack_26 (lv_at hl 0 rfl) ?_
      refine lv_iload_n hx hb dX10_firstLack_28 rfl (lv_at hl 4 rfl) ?_
      refine lv_isub hx hb dX10_firstLack_29 ?_
      refine lv_topi (fun z_9 ez_9 => ?_)
      refine lv_imul hx hb dX10_firstLack_30 ?_
      refine lv_topi (fun z_10 ez_10 => ?_)
      refine lv_iload hx hb dX10_firstLack_31 (lv_at hl 5 rfl) ?_
      refine lv_icmp_le (tgt := 39) hx hb dX10_firstLack_33 (by decide) (fun c_11 => ?_) (fun c_11 => ?_)
      · skip
        have tc_11 : z_10.toInt ≤ z.toInt := (fa_le _ _).mp c_11
        obtain ⟨z_12, ez_12⟩ : ∃ y : Int32, y = x3_5 + 1 := ⟨_, rfl⟩
        have tz_12 : z_12.toInt = x3_5.toInt + 1 := add_t ez_12 (show -2147483648 ≤ x3_5.toInt + 1 by omega) (show x3_5.toInt + 1 < 2147483648 by omega)
        refine lv_iinc (v := z_12) (lv' := [(5, .int z_12), (0, .ref a), (1, .int v), (2, .int w), (3, .int y), (4, .int z)]) hx hb dX10_firstLack_39 hl (k := 0) rfl (by rw [ez_12]; rfl) (by decide) rfl (fun ls hl => ?_)
        refine lv_goto (tgt := 11) hx hb dX10_firstLack_42 (by decide) ?_
        exact ih3 (z_12) _ _ _ (by show (61 - z_12.toInt).toNat < (61 - x3_5.toInt).toNat; omega) ⟨(min_t z_12), (max_t z_12), rfl, rfl, lv_sub hl [0, 1, 2, 3, 4, 5] rfl⟩
      · skip
        have tc_11 : ¬ z_10.toInt ≤ z.toInt := fun h => c_11 ((fa_le _ _).mpr h)
        have mc_11 : z_10.toInt ≤ 2147483647 := max_t z_10
        refine lv_iload hx hb dX10_firstLack_36 (lv_at hl 0 rfl) ?_
        exact ret_i hx hb hr hlocks ⟨rfl, _, rfl, trivial⟩ (fun _ h => absurd h List.not_mem_nil) (Nat.le_refl _) (Nat.le_refl _) dX10_firstLack_38
  · skip
    have tc_1 : y.toInt = 0 := (fa_eq _ _).mp c_1
    refine lv_iconst (v := 0) hx hb dX10_firstLack_4 (by decide) ?_
    exact ret_i hx hb hr hlocks ⟨rfl, _, rfl, trivial⟩ (fun _ h => absurd h List.not_mem_nil) (Nat.le_refl _) (Nat.le_refl _) dX10_firstLack_5
set_option maxHeartbeats 4000000 in
set_option maxRecDepth 100000 in
theorem t_X10_above (l : Launch) (D : va_G) (cy : Nat → ClassId) (base : Nat) (τ : Nat → Nat) (G : Gh) (v : Int32) (w : Int32) : MM l yX10_above cX10_above 2 (some .int) 0 0 0 D cy [.int v, .int w] (PT D cy base τ G) (PuI (fun r => True)) noF := by
  refine MM.of (by decide) (Nat.le_of_ble_eq_true rfl) ?_
  intro p e s m below meth c C hPT ls hl
  obtain ⟨hx, hb, hr, hml, hown, hts, hlocks, hK, hnm⟩ := C
  obtain ⟨hZ, hT⟩ := hPT
  have hS : va_S (RA base) s.heap s.heap [] := va_S.rf
  have hl : lv_has ls 2 [(0, .int v), (1, .int w)] := hl
  refine lv_iload_n hx hb dX10_above_0 rfl (lv_at hl 0 rfl) ?_
  refine lv_iload_n hx hb dX10_above_1 rfl (lv_at hl 1 rfl) ?_
  refine lv_icmp_le (tgt := 11) hx hb dX10_above_2 (by decide) (fun c_1 => ?_) (fun c_1 => ?_)
  · skip
    have tc_1 : v.toInt ≤ w.toInt := (fa_le _ _).mp c_1
    refine lv_iconst (v := 0) hx hb dX10_above_11 (by decide) ?_
    exact ret_i hx hb hr hlocks ⟨rfl, _, rfl, trivial⟩ (fun _ h => absurd h List.not_mem_nil) (Nat.le_refl _) (Nat.le_refl _) dX10_above_12
  · skip
    have tc_1 : ¬ v.toInt ≤ w.toInt := fun h => c_1 ((fa_le _ _).mpr h)
    have mc_1 : v.toInt ≤ 2147483647 := max_t v
    refine lv_iload_n hx hb dX10_above_5 rfl (lv_at hl 0 rfl) ?_
    refine lv_iload_n hx hb dX10_above_6 rfl (lv_at hl 1 rfl) ?_
    refine lv_isub hx hb dX10_above_7 ?_
    refine lv_topi (fun z_2 ez_2 => ?_)
    refine lv_goto (tgt := 12) hx hb dX10_above_8 (by decide) ?_
    exact ret_i hx hb hr hlocks ⟨rfl, _, rfl, trivial⟩ (fun _ h => absurd h List.not_mem_nil) (Nat.le_refl _) (Nat.le_refl _) dX10_above_12
set_option maxHeartbeats 4000000 in
set_option maxRecDepth 100000 in
theorem t_X10_lacks (l : Launch) (D : va_G) (cy : Nat → ClassId) (base : Nat) (τ : Nat → Nat) (G : Gh) (a : Nat) (h_a : τ a = 11) (v0 : Int32) (v1 : Int32) (v2 : Int32) (v3 : Int32) : MM l yX10_lacks cX10_lacks 6 (some .int) 3 0 0 D cy [.ref a, .int v0, .int v1, .int v2, .int v3] (PT D cy base τ G) (QT D cy base τ G [11] (fun v g => ∃ r : Int32, v = some (.int r) ∧ (True))) (RA base) := by
  refine MM.of (by decide) (Nat.le_of_ble_eq_true rfl) ?_
  intro p e s m below meth c C hPT ls hl
  obtain ⟨hx, hb, hr, hml, hown, hts, hlocks, hK, hnm⟩ := C
  obtain ⟨hZ, hT⟩ := hPT
  have hS : va_S (RA base) s.heap s.heap [] := va_S.rf
  have hF : Fr τ [11] G G := Fr.rf
  have hl : lv_has ls 6 [(0, .ref a), (1, .int v0), (2, .int v1), (3, .int v2), (4, .int v3)] := hl
  refine lv_aload_n hx hb dX10_lacks_0 rfl (lv_at hl 0 rfl) ?_
  refine lv_iconst (v := 0) hx hb dX10_lacks_1 (by decide) ?_
  refine t_puti (x := 0) cf_11 hx hb hts hown hK hT hS h_a (k := 0) rfl trivial fl_X10_111 (fun _ h9 => h9) rfl rfl rfl dX10_lacks_2 (fun H locs G_1 eG_1 hT hS => ?_)
  have hF := hF.wI eG_1 h_a rfl
  refine lv_aload_n hx hb dX10_lacks_5 rfl (lv_at hl 0 rfl) ?_
  refine lv_iload_n hx hb dX10_lacks_6 rfl (lv_at hl 1 rfl) ?_
  refine lv_iload_n hx hb dX10_lacks_7 rfl (lv_at hl 2 rfl) ?_
  refine lv_iload_n hx hb dX10_lacks_8 rfl (lv_at hl 3 rfl) ?_
  refine pu_calli (runV (As := [.int v0, .int v1, .int v2]) (rest := []) ⟨hx, hb, hml, hown, hts⟩ (t_X10_isStore l D cy base τ G_1 a h_a v0 v1 v2) sV_X10_375 hK (t_recv cf_11 hK hT h_a) ⟨Nat.le_trans hZ hS.1, hT⟩ ⟨Nat.le_of_ble_eq_true rfl, Nat.le_of_ble_eq_true rfl⟩ rfl hl.1 rfl (Nat.le_of_ble_eq_true rfl) dX10_lacks_9 ⟨Nat.le_of_ble_eq_true rfl, Nat.le_of_ble_eq_true rfl⟩) (fun r_2 hr_2 => ?_)
  have hr_2_c := hr_2
  rcases hr_2_c with hr_2_0 | hr_2_1
  · skip
    obtain ⟨er_2, hr_2_0_f0, hr_2_0_f1, hr_2_0_f2, hr_2_0_f3, hr_2_0_f4, hr_2_0_f5⟩ := hr_2_0
    have hr_2_0_f0 : 0 ≤ v0.toInt := hr_2_0_f0
    have hr_2_0_f1 : v0.toInt ≤ 5 := hr_2_0_f1
    have hr_2_0_f2 : 0 ≤ v1.toInt := hr_2_0_f2
    have hr_2_0_f3 : v1.toInt ≤ 2 := hr_2_0_f3
    have hr_2_0_f4 : 0 ≤ v2.toInt := hr_2_0_f4
    have hr_2_0_f5 : v2.toInt ≤ 999 := hr_2_0_f5
    subst er_2
    refine W.eq (g2 := F0 m 12 ls [.int 1]) rfl ?_
    refine lv_if_eq (tgt := 28) hx hb dX10_lacks_12 (by decide) (fun c_3 => absurd c_3 (by decide)) (fun _ => ?_)
    refine lv_iload hx hb dX10_lacks_15 (lv_at hl 4 rfl) ?_
    refine lv_i2l hx hb dX10_lacks_17 rfl ?_
    refine lv_topl (fun z_4 ez_4 => ?_)
    have tz_4 : z_4.toInt = v3.toInt := by rw [ez_4]; exact wide_t v3
    have az_4 := min_t v3
    have bz_4 := max_t v3
    refine lv_lconst (v := 0) hx hb dX10_lacks_18 (by decide) ?_
    refine lv_ldc2 (v := 2) hx hb hown (hts _ kl_X10_502) dX10_lacks_19 ?_
    refine pu_calli (runS (As := [.long z_4, .long 0, .long 2]) (rest := []) ⟨hx, hb, hml, hown, hts⟩ (t_X10_in l D cy base τ G_1 z_4 0 2) sS_X10_116 hK ⟨Nat.le_trans hZ hS.1, hT⟩ ⟨Nat.le_of_ble_eq_true rfl, Nat.le_of_ble_eq_true rfl⟩ rfl hl.1 rfl (Nat.le_of_ble_eq_true rfl) dX10_lacks_22 ⟨Nat.le_of_ble_eq_true rfl, Nat.le_of_ble_eq_true rfl⟩) (fun r_5 hr_5 => ?_)
    have hr_5_c := hr_5
    rcases hr_5_c with hr_5_0 | hr_5_1
    · skip
      obtain ⟨er_5, hr_5_0_f0, hr_5_0_f1⟩ := hr_5_0
      have hr_5_0_f0 : 0 ≤ z_4.toInt := hr_5_0_f0
      have hr_5_0_f1 : z_4.toInt ≤ 2 := hr_5_0_f1
      subst er_5
      refine W.eq (g2 := F0 m 25 ls [.int 1]) rfl ?_
      refine lv_if_ne (tgt := 31) hx hb dX10_lacks_25 (by decide) (fun _ => ?_) (fun c_6 => absurd c_6 (by decide))
      refine lv_aload_n hx hb dX10_lacks_31 rfl (lv_at hl 0 rfl) ?_
      refine t_getr cf_11 hx hb hts hown hK hT h_a (k := 26) (P := fun q => τ q = 76) rfl (fun _ h9 => h9) fl_X10_62 (fun _ h9 => h9) dX10_lacks_32 (fun q_7 eq_7 hq_7 => ?_)
      have eq_7 := (hF.r h_a (by decide) rfl _).symm.trans eq_7
      refine lv_iconst (v := 0) hx hb dX10_lacks_35 (by decide) ?_
      refine t_iald (n := 5) (i := 0) rfl (by decide) hx hb hK hT hq_7 (hT.len hq_7 (by decide)) ⟨by decide, by decide⟩ dX10_lacks_36 (fun z_8 ez_8 rz_8 => ?_)
      have ez_8 : z_8 = G_1.1 q_7 0 := ez_8
      have ez_8 : z_8 = G.1 q_7 0 := ez_8.trans (hF.i hq_7 (by decide) rfl _)
      refine lv_if_ne (tgt := 42) hx hb dX10_lacks_37 (by decide) (fun c_9 => ?_) (fun c_9 => ?_)
      · skip
        have tc_9 : ¬ z_8.toInt = 0 := fun h => c_9 ((fa_eq _ _).mpr h)
        refine lv_aload_n hx hb dX10_lacks_42 rfl (lv_at hl 0 rfl) ?_
        refine lv_iload_n hx hb dX10_lacks_43 rfl (lv_at hl 1 rfl) ?_
        refine lv_iload_n hx hb dX10_lacks_44 rfl (lv_at hl 2 rfl) ?_
        refine lv_aload_n hx hb dX10_lacks_45 rfl (lv_at hl 0 rfl) ?_
        refine t_getr cf_11 hx hb hts hown hK hT h_a (k := 27) (P := fun q => τ q = 77) rfl (fun _ h9 => h9) fl_X10_65 (fun _ h9 => h9) dX10_lacks_46 (fun q_10 eq_10 hq_10 => ?_)
        have eq_10 := (hF.r h_a (by decide) rfl _).symm.trans eq_10
        refine lv_iload_n hx hb dX10_lacks_49 rfl (lv_at hl 1 rfl) ?_
        refine t_iald (n := 30) (i := v0) rfl (by decide) hx hb hK hT hq_10 (hT.len hq_10 (by decide)) ⟨by omega, by omega⟩ dX10_lacks_50 (fun z_11 ez_11 rz_11 => ?_)
        have ez_11 : z_11 = G.1 q_10 v0.toNatClampNeg := ez_11.trans (hF.i hq_10 (by decide) rfl _)
        refine pu_calli (runV (As := [.int v0, .int v1, .int z_11]) (rest := []) ⟨hx, hb, hml, hown, hts⟩ (t_X10_wantsOf l D cy base τ G_1 a h_a v0 ⟨by omega, by omega⟩ v1 ⟨by omega, by omega⟩ z_11) sV_X10_353 hK (t_recv cf_11 hK hT h_a) ⟨Nat.le_trans hZ hS.1, hT⟩ ⟨Nat.le_of_ble_eq_true rfl, Nat.le_of_ble_eq_true rfl⟩ rfl hl.1 rfl (Nat.le_of_ble_eq_true rfl) dX10_lacks_51 ⟨Nat.le_of_ble_eq_true rfl, Nat.le_of_ble_eq_true rfl⟩) (fun r_12 hr_12 => ?_)
        refine lv_istore (lv' := [(5, .int r_12), (0, .ref a), (1, .int v0), (2, .int v1), (3, .int v2), (4, .int v3)]) hx hb dX10_lacks_54 hl (by decide) rfl (fun ls hl => ?_)
        refine lv_iload hx hb dX10_lacks_56 (lv_at hl 5 rfl) ?_
        refine lv_if_ne (tgt := 70) hx hb dX10_lacks_58 (by decide) (fun c_13 => ?_) (fun c_13 => ?_)
        · skip
          have tc_13 : ¬ v3.toInt = 0 := fun h => c_13 ((fa_eq _ _).mpr h)
          refine lv_iload hx hb dX10_lacks_70 (lv_at hl 5 rfl) ?_
          refine lv_iconst (v := 1) hx hb dX10_lacks_72 (by decide) ?_
          refine lv_icmp_ne (tgt := 85) hx hb dX10_lacks_73 (by decide) (fun c_14 => ?_) (fun c_14 => ?_)
          · skip
            have tc_14 : ¬ v3.toInt = 1 := fun h => c_14 ((fa_eq _ _).mpr h)
            refine lv_aload_n hx hb dX10_lacks_85 rfl (lv_at hl 1 rfl) ?_
            refine lv_iload_n hx hb dX10_lacks_86 rfl (lv_at hl 2 rfl) ?_
            refine lv_iload_n hx hb dX10_lacks_87 rfl (lv_at hl 3 rfl) ?_
            refine lv_aload_n hx hb dX10_lacks_88 rfl (lv_at hl 1 rfl) ?_
            refine t_getr cf_11 hx hb hts hown hK hT h_a (k := 27) (P := fun q => τ q = 77) rfl (fun _ h9 => h9) fl_X10_65 (fun _ h9 => h9) dX10_lacks_89 (fun q_15 eq_15 hq_15 => ?_)
            have w_16 : q_10 = q_15 := Option.some.inj (eq_10.symm.trans ((hF.r h_a (by decide) rfl _).symm.trans eq_15))
            subst w_16
            refine lv_iload_n hx hb dX10_lacks_92 rfl (lv_at hl 2 rfl) ?_
            refine t_iald (n := 30) (i := v0) rfl (by decide) hx hb hK hT hq_10 (hT.len hq_10 (by decide)) ⟨by omega, by omega⟩ dX10_lacks_93 (fun z_17 ez_17 rz_17 => ?_)
            have w_18 : z_11 = z_17 := ez_11.trans (ez_17.trans (hF.i hq_10 (by decide) rfl _)).symm
            subst w_18
            refine lv_iload_n hx hb dX10_lacks_94 rfl (lv_at hl 4 rfl) ?_
            refine pu_calli (runV (As := [.int v0, .int v1, .int z_11, .int v2]) (rest := []) ⟨hx, hb, hml, hown, hts⟩ (t_X10_firstLack l D cy base τ G_1 a h_a v0 ⟨by omega, by omega⟩ v1 ⟨by omega, by omega⟩ z_11 v2) sV_X10_507 hK (t_recv cf_11 hK hT h_a) ⟨Nat.le_trans hZ hS.1, hT⟩ ⟨Nat.le_of_ble_eq_true rfl, Nat.le_of_ble_eq_true rfl⟩ rfl hl.1 rfl (Nat.le_of_ble_eq_true rfl) dX10_lacks_95 ⟨Nat.le_of_ble_eq_true rfl, Nat.le_of_ble_eq_true rfl⟩) (fun r_19 hr_19 => ?_)
            exact ret_i hx hb hr hlocks ⟨⟨hS.1, hS.2.1⟩, G_1, hF, ⟨_, rfl, trivial⟩, hT⟩ hS.2.2 (Nat.le_of_ble_eq_true rfl) (Nat.le_of_ble_eq_true rfl) dX10_lacks_98
          · skip
            have tc_14 : v3.toInt = 1 := (fa_eq _ _).mp c_14
            refine lv_iload_n hx hb dX10_lacks_76 rfl (lv_at hl 4 rfl) ?_
            refine lv_iload hx hb dX10_lacks_77 (lv_at hl 0 rfl) ?_
            refine pu_calli (runS (As := [.int v2, .int r_12]) (rest := []) ⟨hx, hb, hml, hown, hts⟩ (t_X10_above l D cy base τ G_1 v2 r_12) sS_X10_504 hK ⟨Nat.le_trans hZ hS.1, hT⟩ ⟨Nat.le_of_ble_eq_true rfl, Nat.le_of_ble_eq_true rfl⟩ rfl hl.1 rfl (Nat.le_of_ble_eq_true rfl) dX10_lacks_79 ⟨Nat.le_of_ble_eq_true rfl, Nat.le_of_ble_eq_true rfl⟩) (fun r_20 hr_20 => ?_)
            refine lv_goto (tgt := 98) hx hb dX10_lacks_82 (by decide) ?_
            exact ret_i hx hb hr hlocks ⟨⟨hS.1, hS.2.1⟩, G_1, hF, ⟨_, rfl, trivial⟩, hT⟩ hS.2.2 (Nat.le_of_ble_eq_true rfl) (Nat.le_of_ble_eq_true rfl) dX10_lacks_98
        · skip
          have tc_13 : v3.toInt = 0 := (fa_eq _ _).mp c_13
          refine lv_iload hx hb dX10_lacks_61 (lv_at hl 0 rfl) ?_
          refine lv_iload_n hx hb dX10_lacks_63 rfl (lv_at hl 4 rfl) ?_
          refine pu_calli (runS (As := [.int r_12, .int v2]) (rest := []) ⟨hx, hb, hml, hown, hts⟩ (t_X10_above l D cy base τ G_1 r_12 v2) sS_X10_504 hK ⟨Nat.le_trans hZ hS.1, hT⟩ ⟨Nat.le_of_ble_eq_true rfl, Nat.le_of_ble_eq_true rfl⟩ rfl hl.1 rfl (Nat.le_of_ble_eq_true rfl) dX10_lacks_64 ⟨Nat.le_of_ble_eq_true rfl, Nat.le_of_ble_eq_true rfl⟩) (fun r_21 hr_21 => ?_)
          refine lv_goto (tgt := 98) hx hb dX10_lacks_67 (by decide) ?_
          exact ret_i hx hb hr hlocks ⟨⟨hS.1, hS.2.1⟩, G_1, hF, ⟨_, rfl, trivial⟩, hT⟩ hS.2.2 (Nat.le_of_ble_eq_true rfl) (Nat.le_of_ble_eq_true rfl) dX10_lacks_98
      · skip
        have tc_9 : z_8.toInt = 0 := (fa_eq _ _).mp c_9
        refine lv_iconst (v := (-1)) hx hb dX10_lacks_40 (by decide) ?_
        exact ret_i hx hb hr hlocks ⟨⟨hS.1, hS.2.1⟩, G_1, hF, ⟨_, rfl, trivial⟩, hT⟩ hS.2.2 (Nat.le_of_ble_eq_true rfl) (Nat.le_of_ble_eq_true rfl) dX10_lacks_41
    · skip
      have er_5 := hr_5_1
      subst er_5
      refine W.eq (g2 := F0 m 25 ls [.int 0]) rfl ?_
      refine lv_if_ne (tgt := 31) hx hb dX10_lacks_25 (by decide) (fun c_22 => absurd rfl c_22) (fun _ => ?_)
      refine lv_bipush (v := (-2)) hx hb dX10_lacks_28 (by decide) ?_
      exact ret_i hx hb hr hlocks ⟨⟨hS.1, hS.2.1⟩, G_1, hF, ⟨_, rfl, trivial⟩, hT⟩ hS.2.2 (Nat.le_of_ble_eq_true rfl) (Nat.le_of_ble_eq_true rfl) dX10_lacks_30
  · skip
    have er_2 := hr_2_1
    subst er_2
    refine W.eq (g2 := F0 m 12 ls [.int 0]) rfl ?_
    refine lv_if_eq (tgt := 28) hx hb dX10_lacks_12 (by decide) (fun _ => ?_) (fun c_23 => absurd (by decide) c_23)
    refine lv_bipush (v := (-2)) hx hb dX10_lacks_28 (by decide) ?_
    exact ret_i hx hb hr hlocks ⟨⟨hS.1, hS.2.1⟩, G_1, hF, ⟨_, rfl, trivial⟩, hT⟩ hS.2.2 (Nat.le_of_ble_eq_true rfl) (Nat.le_of_ble_eq_true rfl) dX10_lacks_30
set_option maxHeartbeats 4000000 in
set_option maxRecDepth 100000 in
theorem t_X10_judged (l : Launch) (D : va_G) (cy : Nat → ClassId) (base : Nat) (τ : Nat → Nat) (G : Gh) (a : Nat) (h_a : τ a = 11) (v : Int32) (r_v : 0 ≤ v.toInt ∧ v.toInt ≤ 3) (w : Int32) (r_w : 0 ≤ w.toInt ∧ w.toInt ≤ 5) : MM l yX10_judged cX10_judged 6 (some .int) 1 0 0 D cy [.ref a, .int v, .int w] (PT D cy base τ G) (PuI (fun r => True)) noF := by
  refine MM.of (by decide) (Nat.le_of_ble_eq_true rfl) ?_
  intro p e s m below meth c C hPT ls hl
  obtain ⟨hx, hb, hr, hml, hown, hts, hlocks, hK, hnm⟩ := C
  obtain ⟨hZ, hT⟩ := hPT
  have hS : va_S (RA base) s.heap s.heap [] := va_S.rf
  have hl : lv_has ls 6 [(0, .ref a), (1, .int v), (2, .int w)] := hl
  refine lv_iconst (v := 0) hx hb dX10_judged_0 (by decide) ?_
  refine lv_istore_n (lv' := [(3, .int 0), (0, .ref a), (1, .int v), (2, .int w)]) hx hb dX10_judged_1 rfl hl (by decide) rfl (fun ls hl => ?_)
  refine W.loop (σ := Int32) (fun w1 H locs ls => 0 ≤ w1.toInt ∧ w1.toInt ≤ 60 ∧ H = s.heap ∧ locs = [] ∧ lv_has ls 6 [(3, .int w1), (0, .ref a), (1, .int v), (2, .int w)]) (fun w1 => (60 - w1.toInt).toNat) ?_ ((0 : Int32)) _ _ _ ⟨(by show 0 ≤ (0 : Int32).toInt; decide), (by show (0 : Int32).toInt ≤ 60; decide), rfl, rfl, lv_sub hl [0, 1, 2, 3] rfl⟩
  intro w1 H locs ls hI ih1
  obtain ⟨x1_3, e9⟩ : ∃ y, y = w1 := ⟨_, rfl⟩
  subst e9
  obtain ⟨i1_0, i1_1, rfl, rfl, hl⟩ := hI
  have i1_0 : 0 ≤ x1_3.toInt := i1_0
  have i1_1 : x1_3.toInt ≤ 60 := i1_1
  have hl : lv_has ls 6 [(3, .int x1_3), (0, .ref a), (1, .int v), (2, .int w)] := hl
  refine lv_iload_n hx hb dX10_judged_2 rfl (lv_at hl 0 rfl) ?_
  refine lv_aload_n hx hb dX10_judged_3 rfl (lv_at hl 1 rfl) ?_
  refine t_getr cf_11 hx hb hts hown hK hT h_a (k := 2) (P := fun q => τ q = 52) rfl (fun _ h9 => h9) fl_X10_13 (fun _ h9 => h9) dX10_judged_4 (fun q_2 eq_2 hq_2 => ?_)
  refine lv_iload_n hx hb dX10_judged_7 rfl (lv_at hl 2 rfl) ?_
  refine t_iald (n := 4) (i := v) rfl (by decide) hx hb hK hT hq_2 (hT.len hq_2 (by decide)) ⟨by omega, by omega⟩ dX10_judged_8 (fun z_3 ez_3 rz_3 => ?_)
  have rz_3 : 0 ≤ z_3.toInt ∧ z_3.toInt ≤ 60 := rz_3
  refine lv_icmp_ge (tgt := 77) hx hb dX10_judged_9 (by decide) (fun c_4 => ?_) (fun c_4 => ?_)
  · skip
    have tc_4 : z_3.toInt ≤ x1_3.toInt := (fa_le _ _).mp c_4
    refine lv_iconst (v := 0) hx hb dX10_judged_77 (by decide) ?_
    exact ret_i hx hb hr hlocks ⟨rfl, _, rfl, trivial⟩ (fun _ h => absurd h List.not_mem_nil) (Nat.le_refl _) (Nat.le_refl _) dX10_judged_78
  · skip
    have tc_4 : ¬ z_3.toInt ≤ x1_3.toInt := fun h => c_4 ((fa_le _ _).mpr h)
    refine lv_aload_n hx hb dX10_judged_12 rfl (lv_at hl 1 rfl) ?_
    refine t_getr cf_11 hx hb hts hown hK hT h_a (k := 3) (P := fun q => τ q = 53) rfl (fun _ h9 => h9) fl_X10_16 (fun _ h9 => h9) dX10_judged_13 (fun q_5 eq_5 hq_5 => ?_)
    refine lv_bipush (v := 60) hx hb dX10_judged_16 (by decide) ?_
    refine lv_iload_n hx hb dX10_judged_18 rfl (lv_at hl 2 rfl) ?_
    refine lv_imul hx hb dX10_judged_19 ?_
    refine lv_topi (fun z_6 ez_6 => ?_)
    have tz_6 : z_6.toInt = 60 * v.toInt := mul_t ez_6 (show -2147483648 ≤ 60 * v.toInt by omega) (show 60 * v.toInt < 2147483648 by omega)
    refine lv_iload_n hx hb dX10_judged_20 rfl (lv_at hl 0 rfl) ?_
    refine lv_iadd hx hb dX10_judged_21 ?_
    refine lv_topi (fun z_7 ez_7 => ?_)
    have tz_7 : z_7.toInt = z_6.toInt + x1_3.toInt := add_t ez_7 (show -2147483648 ≤ z_6.toInt + x1_3.toInt by omega) (show z_6.toInt + x1_3.toInt < 2147483648 by omega)
    refine t_lald (n := 240) (i := z_7) rfl (by decide) hx hb hK hT hq_5 (hT.len hq_5 (by decide)) ⟨by omega, by omega⟩ dX10_judged_22 (fun z_8 ez_8 => ?_)
    refine lv_lstore (lv' := [(4, .long z_8), (3, .int x1_3), (0, .ref a), (1, .int v), (2, .int w)]) hx hb dX10_judged_23 hl (by decide) rfl (fun ls hl => ?_)
    refine lv_lload hx hb dX10_judged_25 (lv_at hl 0 rfl) ?_
    refine lv_lconst (v := 0) hx hb dX10_judged_27 (by decide) ?_
    refine W.lcmp hx hb dX10_judged_28 ?_
    refine lv_topi (fun z_9 ez_9 => ?_)
    have tz_9 : (z_9.toInt < 0 ↔ z_8.toInt < 0) ∧ (0 < z_9.toInt ↔ 0 < z_8.toInt) ∧ -1 ≤ z_9.toInt ∧ z_9.toInt ≤ 1 := cmp_t ez_9
    refine lv_if_eq (tgt := 71) hx hb dX10_judged_29 (by decide) (fun c_10 => ?_) (fun c_10 => ?_)
    · skip
      have tc_10 : z_9.toInt = 0 := (fa_eq _ _).mp c_10
      obtain ⟨z_11, ez_11⟩ : ∃ y : Int32, y = x1_3 + 1 := ⟨_, rfl⟩
      have tz_11 : z_11.toInt = x1_3.toInt + 1 := add_t ez_11 (show -2147483648 ≤ x1_3.toInt + 1 by omega) (show x1_3.toInt + 1 < 2147483648 by omega)
      refine lv_iinc (v := z_11) (lv' := [(3, .int z_11), (4, .long z_8), (0, .ref a), (1, .int v), (2, .int w)]) hx hb dX10_judged_71 hl (k := 1) rfl (by rw [ez_11]; rfl) (by decide) rfl (fun ls hl => ?_)
      refine lv_goto (tgt := 2) hx hb dX10_judged_74 (by decide) ?_
      exact ih1 (z_11) _ _ _ (by show (60 - z_11.toInt).toNat < (60 - x1_3.toInt).toNat; omega) ⟨(by show 0 ≤ z_11.toInt; omega), (by show z_11.toInt ≤ 60; omega), rfl, rfl, lv_sub hl [0, 2, 3, 4] rfl⟩
    · skip
      have tc_10 : ¬ z_9.toInt = 0 := fun h => c_10 ((fa_eq _ _).mpr h)
      refine lv_lload hx hb dX10_judged_32 (lv_at hl 0 rfl) ?_
      refine lv_lconst (v := 0) hx hb dX10_judged_34 (by decide) ?_
      refine lv_aload_n hx hb dX10_judged_35 rfl (lv_at hl 2 rfl) ?_
      refine t_getr cf_11 hx hb hts hown hK hT h_a (k := 24) (P := fun q => τ q = 74) rfl (fun _ h9 => h9) fl_X10_55 (fun _ h9 => h9) dX10_judged_36 (fun q_12 eq_12 hq_12 => ?_)
      refine lv_iconst (v := 0) hx hb dX10_judged_39 (by decide) ?_
      refine t_iald (n := 30) (i := 0) rfl (by decide) hx hb hK hT hq_12 (hT.len hq_12 (by decide)) ⟨by decide, by decide⟩ dX10_judged_40 (fun z_13 ez_13 rz_13 => ?_)
      have ez_13 : z_13 = G.1 q_12 0 := ez_13
      have qz_13 : (0 % 6 = 0 → 0 ≤ z_13.toInt ∧ z_13.toInt ≤ 9) ∧ (0 % 6 = 1 → 0 ≤ z_13.toInt ∧ z_13.toInt ≤ 50) ∧ (0 % 6 = 3 → 0 ≤ z_13.toInt ∧ z_13.toInt ≤ 50) := rz_13
      have rz_13 : 0 ≤ z_13.toInt ∧ z_13.toInt ≤ 9 := by omega
      refine lv_i2l hx hb dX10_judged_41 rfl ?_
      refine lv_topl (fun z_14 ez_14 => ?_)
      have tz_14 : z_14.toInt = z_13.toInt := by rw [ez_14]; exact wide_t z_13
      refine pu_calli (runS (As := [.long z_8, .long 0, .long z_14]) (rest := []) ⟨hx, hb, hml, hown, hts⟩ (t_X10_in l D cy base τ G z_8 0 z_14) sS_X10_116 hK ⟨Nat.le_trans hZ hS.1, hT⟩ ⟨Nat.le_of_ble_eq_true rfl, Nat.le_of_ble_eq_true rfl⟩ rfl hl.1 rfl (Nat.le_of_ble_eq_true rfl) dX10_judged_42 ⟨Nat.le_of_ble_eq_true rfl, Nat.le_of_ble_eq_true rfl⟩) (fun r_15 hr_15 => ?_)
      have hr_15_c := hr_15
      rcases hr_15_c with hr_15_0 | hr_15_1
      · skip
        obtain ⟨er_15, hr_15_0_f0, hr_15_0_f1⟩ := hr_15_0
        have hr_15_0_f0 : 0 ≤ z_8.toInt := hr_15_0_f0
        have hr_15_0_f1 : z_8.toInt ≤ z_14.toInt := hr_15_0_f1
        subst er_15
        refine W.eq (g2 := F0 m 45 ls [.int 1]) rfl ?_
        refine lv_if_eq (tgt := 67) hx hb dX10_judged_45 (by decide) (fun c_16 => absurd c_16 (by decide)) (fun _ => ?_)
        refine lv_aload_n hx hb dX10_judged_48 rfl (lv_at hl 2 rfl) ?_
        refine t_getr cf_11 hx hb hts hown hK hT h_a (k := 27) (P := fun q => τ q = 77) rfl (fun _ h9 => h9) fl_X10_65 (fun _ h9 => h9) dX10_judged_49 (fun q_17 eq_17 hq_17 => ?_)
        refine lv_iload_n hx hb dX10_judged_52 rfl (lv_at hl 4 rfl) ?_
        refine t_iald (n := 30) (i := w) rfl (by decide) hx hb hK hT hq_17 (hT.len hq_17 (by decide)) ⟨by omega, by omega⟩ dX10_judged_53 (fun z_18 ez_18 rz_18 => ?_)
        refine lv_if_eq (tgt := 71) hx hb dX10_judged_54 (by decide) (fun c_19 => ?_) (fun c_19 => ?_)
        · skip
          have tc_19 : z_18.toInt = 0 := (fa_eq _ _).mp c_19
          obtain ⟨z_20, ez_20⟩ : ∃ y : Int32, y = x1_3 + 1 := ⟨_, rfl⟩
          have tz_20 : z_20.toInt = x1_3.toInt + 1 := add_t ez_20 (show -2147483648 ≤ x1_3.toInt + 1 by omega) (show x1_3.toInt + 1 < 2147483648 by omega)
          refine lv_iinc (v := z_20) (lv' := [(3, .int z_20), (4, .long z_8), (0, .ref a), (1, .int v), (2, .int w)]) hx hb dX10_judged_71 hl (k := 1) rfl (by rw [ez_20]; rfl) (by decide) rfl (fun ls hl => ?_)
          refine lv_goto (tgt := 2) hx hb dX10_judged_74 (by decide) ?_
          exact ih1 (z_20) _ _ _ (by show (60 - z_20.toInt).toNat < (60 - x1_3.toInt).toNat; omega) ⟨(by show 0 ≤ z_20.toInt; omega), (by show z_20.toInt ≤ 60; omega), rfl, rfl, lv_sub hl [0, 2, 3, 4] rfl⟩
        · skip
          have tc_19 : ¬ z_18.toInt = 0 := fun h => c_19 ((fa_eq _ _).mpr h)
          refine lv_aload_n hx hb dX10_judged_57 rfl (lv_at hl 2 rfl) ?_
          refine t_getr cf_11 hx hb hts hown hK hT h_a (k := 27) (P := fun q => τ q = 77) rfl (fun _ h9 => h9) fl_X10_65 (fun _ h9 => h9) dX10_judged_58 (fun q_21 eq_21 hq_21 => ?_)
          have w_22 : q_17 = q_21 := Option.some.inj (eq_17.symm.trans eq_21)
          subst w_22
          refine lv_iload_n hx hb dX10_judged_61 rfl (lv_at hl 4 rfl) ?_
          refine t_iald (n := 30) (i := w) rfl (by decide) hx hb hK hT hq_17 (hT.len hq_17 (by decide)) ⟨by omega, by omega⟩ dX10_judged_62 (fun z_23 ez_23 rz_23 => ?_)
          have w_24 : z_18 = z_23 := ez_18.trans ez_23.symm
          subst w_24
          refine lv_iload_n hx hb dX10_judged_63 rfl (lv_at hl 1 rfl) ?_
          refine lv_icmp_gt (tgt := 71) hx hb dX10_judged_64 (by decide) (fun c_25 => ?_) (fun c_25 => ?_)
          · skip
            have tc_25 : x1_3.toInt < z_18.toInt := (fa_lt _ _).mp c_25
            have mc_25 : z_18.toInt ≤ 2147483647 := max_t z_18
            obtain ⟨z_26, ez_26⟩ : ∃ y : Int32, y = x1_3 + 1 := ⟨_, rfl⟩
            have tz_26 : z_26.toInt = x1_3.toInt + 1 := add_t ez_26 (show -2147483648 ≤ x1_3.toInt + 1 by omega) (show x1_3.toInt + 1 < 2147483648 by omega)
            refine lv_iinc (v := z_26) (lv' := [(3, .int z_26), (4, .long z_8), (0, .ref a), (1, .int v), (2, .int w)]) hx hb dX10_judged_71 hl (k := 1) rfl (by rw [ez_26]; rfl) (by decide) rfl (fun ls hl => ?_)
            refine lv_goto (tgt := 2) hx hb dX10_judged_74 (by decide) ?_
            exact ih1 (z_26) _ _ _ (by show (60 - z_26.toInt).toNat < (60 - x1_3.toInt).toNat; omega) ⟨(by show 0 ≤ z_26.toInt; omega), (by show z_26.toInt ≤ 60; omega), rfl, rfl, lv_sub hl [0, 2, 3, 4] rfl⟩
          · skip
            have tc_25 : ¬ x1_3.toInt < z_18.toInt := fun h => c_25 ((fa_lt _ _).mpr h)
            refine lv_iload_n hx hb dX10_judged_67 rfl (lv_at hl 1 rfl) ?_
            refine lv_iconst (v := 1) hx hb dX10_judged_68 (by decide) ?_
            refine lv_iadd hx hb dX10_judged_69 ?_
            refine lv_topi (fun z_27 ez_27 => ?_)
            have tz_27 : z_27.toInt = x1_3.toInt + 1 := add_t ez_27 (show -2147483648 ≤ x1_3.toInt + 1 by omega) (show x1_3.toInt + 1 < 2147483648 by omega)
            exact ret_i hx hb hr hlocks ⟨rfl, _, rfl, trivial⟩ (fun _ h => absurd h List.not_mem_nil) (Nat.le_refl _) (Nat.le_refl _) dX10_judged_70
      · skip
        have er_15 := hr_15_1
        subst er_15
        refine W.eq (g2 := F0 m 45 ls [.int 0]) rfl ?_
        refine lv_if_eq (tgt := 67) hx hb dX10_judged_45 (by decide) (fun _ => ?_) (fun c_28 => absurd (by decide) c_28)
        refine lv_iload_n hx hb dX10_judged_67 rfl (lv_at hl 1 rfl) ?_
        refine lv_iconst (v := 1) hx hb dX10_judged_68 (by decide) ?_
        refine lv_iadd hx hb dX10_judged_69 ?_
        refine lv_topi (fun z_29 ez_29 => ?_)
        have tz_29 : z_29.toInt = x1_3.toInt + 1 := add_t ez_29 (show -2147483648 ≤ x1_3.toInt + 1 by omega) (show x1_3.toInt + 1 < 2147483648 by omega)
        exact ret_i hx hb hr hlocks ⟨rfl, _, rfl, trivial⟩ (fun _ h => absurd h List.not_mem_nil) (Nat.le_refl _) (Nat.le_refl _) dX10_judged_70
set_option maxHeartbeats 4000000 in
set_option maxRecDepth 100000 in
theorem t_X10_whyNotJudged (l : Launch) (D : va_G) (cy : Nat → ClassId) (base : Nat) (τ : Nat → Nat) (G : Gh) (a : Nat) (h_a : τ a = 11) (v : Int32) (w : Int32) : MM l yX10_whyNotJudged cX10_whyNotJudged 3 (some .int) 2 0 0 D cy [.ref a, .int v, .int w] (PT D cy base τ G) (PuI (fun r => ((r = 0 ∧ 0 ≤ v.toInt ∧ v.toInt ≤ 3 ∧ 0 ≤ w.toInt ∧ w.toInt ≤ 5) ∨ (r = (-2)) ∨ (r = (-6)) ∨ (r = (-1))))) noF := by
  refine MM.of (by decide) (Nat.le_of_ble_eq_true rfl) ?_
  intro p e s m below meth c C hPT ls hl
  obtain ⟨hx, hb, hr, hml, hown, hts, hlocks, hK, hnm⟩ := C
  obtain ⟨hZ, hT⟩ := hPT
  have hS : va_S (RA base) s.heap s.heap [] := va_S.rf
  have hl : lv_has ls 3 [(0, .ref a), (1, .int v), (2, .int w)] := hl
  refine lv_iload_n hx hb dX10_whyNotJudged_0 rfl (lv_at hl 1 rfl) ?_
  refine pu_calli (runS (As := [.int v]) (rest := []) ⟨hx, hb, hml, hown, hts⟩ (t_X10_isSlot l D cy base τ G v) sS_X10_120 hK ⟨Nat.le_trans hZ hS.1, hT⟩ ⟨Nat.le_of_ble_eq_true rfl, Nat.le_of_ble_eq_true rfl⟩ rfl hl.1 rfl (Nat.le_of_ble_eq_true rfl) dX10_whyNotJudged_1 ⟨Nat.le_of_ble_eq_true rfl, Nat.le_of_ble_eq_true rfl⟩) (fun r_1 hr_1 => ?_)
  have hr_1_c := hr_1
  rcases hr_1_c with hr_1_0 | hr_1_1
  · skip
    obtain ⟨er_1, hr_1_0_f0, hr_1_0_f1⟩ := hr_1_0
    have hr_1_0_f0 : 0 ≤ v.toInt := hr_1_0_f0
    have hr_1_0_f1 : v.toInt ≤ 3 := hr_1_0_f1
    subst er_1
    refine W.eq (g2 := F0 m 4 ls [.int 1]) rfl ?_
    refine lv_if_eq (tgt := 15) hx hb dX10_whyNotJudged_4 (by decide) (fun c_2 => absurd c_2 (by decide)) (fun _ => ?_)
    refine lv_aload_n hx hb dX10_whyNotJudged_7 rfl (lv_at hl 0 rfl) ?_
    refine lv_iload_n hx hb dX10_whyNotJudged_8 rfl (lv_at hl 2 rfl) ?_
    refine pu_calli (runV (As := [.int w]) (rest := []) ⟨hx, hb, hml, hown, hts⟩ (t_X10_isValley l D cy base τ G a h_a w) sV_X10_297 hK (t_recv cf_11 hK hT h_a) ⟨Nat.le_trans hZ hS.1, hT⟩ ⟨Nat.le_of_ble_eq_true rfl, Nat.le_of_ble_eq_true rfl⟩ rfl hl.1 rfl (Nat.le_of_ble_eq_true rfl) dX10_whyNotJudged_9 ⟨Nat.le_of_ble_eq_true rfl, Nat.le_of_ble_eq_true rfl⟩) (fun r_3 hr_3 => ?_)
    have hr_3_c := hr_3
    rcases hr_3_c with hr_3_0 | hr_3_1
    · skip
      obtain ⟨er_3, hr_3_0_f0, hr_3_0_f1⟩ := hr_3_0
      have hr_3_0_f0 : 0 ≤ w.toInt := hr_3_0_f0
      have hr_3_0_f1 : w.toInt ≤ 5 := hr_3_0_f1
      subst er_3
      refine W.eq (g2 := F0 m 12 ls [.int 1]) rfl ?_
      refine lv_if_ne (tgt := 18) hx hb dX10_whyNotJudged_12 (by decide) (fun _ => ?_) (fun c_4 => absurd c_4 (by decide))
      refine lv_aload_n hx hb dX10_whyNotJudged_18 rfl (lv_at hl 0 rfl) ?_
      refine t_getr cf_11 hx hb hts hown hK hT h_a (k := 1) (P := fun q => τ q = 51) rfl (fun _ h9 => h9) fl_X10_7 (fun _ h9 => h9) dX10_whyNotJudged_19 (fun q_5 eq_5 hq_5 => ?_)
      refine lv_iload_n hx hb dX10_whyNotJudged_22 rfl (lv_at hl 1 rfl) ?_
      refine t_iald (n := 4) (i := v) rfl (by decide) hx hb hK hT hq_5 (hT.len hq_5 (by decide)) ⟨by omega, by omega⟩ dX10_whyNotJudged_23 (fun z_6 ez_6 rz_6 => ?_)
      have rz_6 : -1 ≤ z_6.toInt ∧ z_6.toInt ≤ 3 := rz_6
      refine lv_iconst (v := (-1)) hx hb dX10_whyNotJudged_24 (by decide) ?_
      refine lv_icmp_ne (tgt := 31) hx hb dX10_whyNotJudged_25 (by decide) (fun c_7 => ?_) (fun c_7 => ?_)
      · skip
        have tc_7 : ¬ z_6.toInt = -1 := fun h => c_7 ((fa_eq _ _).mpr h)
        refine lv_aload_n hx hb dX10_whyNotJudged_31 rfl (lv_at hl 0 rfl) ?_
        refine t_getr cf_11 hx hb hts hown hK hT h_a (k := 2) (P := fun q => τ q = 52) rfl (fun _ h9 => h9) fl_X10_13 (fun _ h9 => h9) dX10_whyNotJudged_32 (fun q_8 eq_8 hq_8 => ?_)
        refine lv_iload_n hx hb dX10_whyNotJudged_35 rfl (lv_at hl 1 rfl) ?_
        refine t_iald (n := 4) (i := v) rfl (by decide) hx hb hK hT hq_8 (hT.len hq_8 (by decide)) ⟨by omega, by omega⟩ dX10_whyNotJudged_36 (fun z_9 ez_9 rz_9 => ?_)
        have rz_9 : 0 ≤ z_9.toInt ∧ z_9.toInt ≤ 60 := rz_9
        refine lv_aload_n hx hb dX10_whyNotJudged_37 rfl (lv_at hl 0 rfl) ?_
        obtain ⟨q_10, eq_10, hq_10⟩ := (show ∃ q, G.2.2.1 a 17 = some q ∧ τ q = 67 from hT.rgr h_a (by decide) 17)
        obtain ⟨z_11, ez_11⟩ : ∃ y : Int32, y = G.1 q_10 0 := ⟨_, rfl⟩
        have qz_11 : (0 % 4 = 0 → 0 ≤ z_11.toInt ∧ z_11.toInt ≤ 60) := by rw [ez_11]; exact hT.rgi hq_10 (by decide) 0
        have rz_11 : 0 ≤ z_11.toInt ∧ z_11.toInt ≤ 60 := by omega
        refine pu_calli (runV (As := []) (rest := [.int z_9]) ⟨hx, hb, hml, hown, hts⟩ (t_X10_lastDay l D cy base τ G a h_a q_10 hq_10 eq_10 z_11 ez_11 ⟨by omega, by omega⟩) sV_X10_278 hK (t_recv cf_11 hK hT h_a) ⟨Nat.le_trans hZ hS.1, hT⟩ ⟨Nat.le_of_ble_eq_true rfl, Nat.le_of_ble_eq_true rfl⟩ rfl hl.1 rfl (Nat.le_of_ble_eq_true rfl) dX10_whyNotJudged_38 ⟨Nat.le_of_ble_eq_true rfl, Nat.le_of_ble_eq_true rfl⟩) (fun r_12 hr_12 => ?_)
        have er_12 := hr_12
        have er_12 := er_12.symm
        subst er_12
        refine W.eq (g2 := F0 m 41 ls [.int z_11, .int z_9]) rfl ?_
        refine lv_icmp_le (tgt := 47) hx hb dX10_whyNotJudged_41 (by decide) (fun c_13 => ?_) (fun c_13 => ?_)
        · skip
          have tc_13 : z_9.toInt ≤ z_11.toInt := (fa_le _ _).mp c_13
          refine lv_aload_n hx hb dX10_whyNotJudged_47 rfl (lv_at hl 0 rfl) ?_
          refine t_getr cf_11 hx hb hts hown hK hT h_a (k := 26) (P := fun q => τ q = 76) rfl (fun _ h9 => h9) fl_X10_62 (fun _ h9 => h9) dX10_whyNotJudged_48 (fun q_14 eq_14 hq_14 => ?_)
          refine lv_iconst (v := 0) hx hb dX10_whyNotJudged_51 (by decide) ?_
          refine t_iald (n := 5) (i := 0) rfl (by decide) hx hb hK hT hq_14 (hT.len hq_14 (by decide)) ⟨by decide, by decide⟩ dX10_whyNotJudged_52 (fun z_15 ez_15 rz_15 => ?_)
          have ez_15 : z_15 = G.1 q_14 0 := ez_15
          refine lv_if_ne (tgt := 60) hx hb dX10_whyNotJudged_53 (by decide) (fun c_16 => ?_) (fun c_16 => ?_)
          · skip
            have tc_16 : ¬ z_15.toInt = 0 := fun h => c_16 ((fa_eq _ _).mpr h)
            refine lv_iconst (v := 0) hx hb dX10_whyNotJudged_60 (by decide) ?_
            exact ret_i hx hb hr hlocks ⟨rfl, _, rfl, (Or.inl ⟨rfl, (by omega), (by omega), (by omega), (by omega)⟩)⟩ (fun _ h => absurd h List.not_mem_nil) (Nat.le_refl _) (Nat.le_refl _) dX10_whyNotJudged_61
          · skip
            have tc_16 : z_15.toInt = 0 := (fa_eq _ _).mp c_16
            refine lv_iconst (v := (-1)) hx hb dX10_whyNotJudged_56 (by decide) ?_
            refine lv_goto (tgt := 61) hx hb dX10_whyNotJudged_57 (by decide) ?_
            exact ret_i hx hb hr hlocks ⟨rfl, _, rfl, (Or.inr (Or.inr (Or.inr rfl)))⟩ (fun _ h => absurd h List.not_mem_nil) (Nat.le_refl _) (Nat.le_refl _) dX10_whyNotJudged_61
        · skip
          have tc_13 : ¬ z_9.toInt ≤ z_11.toInt := fun h => c_13 ((fa_le _ _).mpr h)
          refine lv_bipush (v := (-2)) hx hb dX10_whyNotJudged_44 (by decide) ?_
          exact ret_i hx hb hr hlocks ⟨rfl, _, rfl, (Or.inr (Or.inl rfl))⟩ (fun _ h => absurd h List.not_mem_nil) (Nat.le_refl _) (Nat.le_refl _) dX10_whyNotJudged_46
      · skip
        have tc_7 : z_6.toInt = -1 := (fa_eq _ _).mp c_7
        refine lv_bipush (v := (-6)) hx hb dX10_whyNotJudged_28 (by decide) ?_
        exact ret_i hx hb hr hlocks ⟨rfl, _, rfl, (Or.inr (Or.inr (Or.inl rfl)))⟩ (fun _ h => absurd h List.not_mem_nil) (Nat.le_refl _) (Nat.le_refl _) dX10_whyNotJudged_30
    · skip
      have er_3 := hr_3_1
      subst er_3
      refine W.eq (g2 := F0 m 12 ls [.int 0]) rfl ?_
      refine lv_if_ne (tgt := 18) hx hb dX10_whyNotJudged_12 (by decide) (fun c_17 => absurd rfl c_17) (fun _ => ?_)
      refine lv_bipush (v := (-2)) hx hb dX10_whyNotJudged_15 (by decide) ?_
      exact ret_i hx hb hr hlocks ⟨rfl, _, rfl, (Or.inr (Or.inl rfl))⟩ (fun _ h => absurd h List.not_mem_nil) (Nat.le_refl _) (Nat.le_refl _) dX10_whyNotJudged_17
  · skip
    have er_1 := hr_1_1
    subst er_1
    refine W.eq (g2 := F0 m 4 ls [.int 0]) rfl ?_
    refine lv_if_eq (tgt := 15) hx hb dX10_whyNotJudged_4 (by decide) (fun _ => ?_) (fun c_18 => absurd (by decide) c_18)
    refine lv_bipush (v := (-2)) hx hb dX10_whyNotJudged_15 (by decide) ?_
    exact ret_i hx hb hr hlocks ⟨rfl, _, rfl, (Or.inr (Or.inl rfl))⟩ (fun _ h => absurd h List.not_mem_nil) (Nat.le_refl _) (Nat.le_refl _) dX10_whyNotJudged_17
set_option maxHeartbeats 4000000 in
set_option maxRecDepth 100000 in
theorem t_X10_judge (l : Launch) (D : va_G) (cy : Nat → ClassId) (base : Nat) (τ : Nat → Nat) (G : Gh) (a : Nat) (h_a : τ a = 11) (v0 : Int32) (v1 : Int32) : MM l yX10_judge cX10_judge 4 (some .int) 3 0 0 D cy [.ref a, .int v0, .int v1] (PT D cy base τ G) (QT D cy base τ G [11] (fun v g => ∃ r : Int32, v = some (.int r) ∧ (True))) (RA base) := by
  refine MM.of (by decide) (Nat.le_of_ble_eq_true rfl) ?_
  intro p e s m below meth c C hPT ls hl
  obtain ⟨hx, hb, hr, hml, hown, hts, hlocks, hK, hnm⟩ := C
  obtain ⟨hZ, hT⟩ := hPT
  have hS : va_S (RA base) s.heap s.heap [] := va_S.rf
  have hF : Fr τ [11] G G := Fr.rf
  have hl : lv_has ls 4 [(0, .ref a), (1, .int v0), (2, .int v1)] := hl
  refine lv_aload_n hx hb dX10_judge_0 rfl (lv_at hl 0 rfl) ?_
  refine lv_iconst (v := 0) hx hb dX10_judge_1 (by decide) ?_
  refine t_puti (x := 0) cf_11 hx hb hts hown hK hT hS h_a (k := 0) rfl trivial fl_X10_111 (fun _ h9 => h9) rfl rfl rfl dX10_judge_2 (fun H locs G_1 eG_1 hT hS => ?_)
  have hF := hF.wI eG_1 h_a rfl
  refine lv_aload_n hx hb dX10_judge_5 rfl (lv_at hl 0 rfl) ?_
  refine lv_iload_n hx hb dX10_judge_6 rfl (lv_at hl 1 rfl) ?_
  refine lv_iload_n hx hb dX10_judge_7 rfl (lv_at hl 2 rfl) ?_
  refine pu_calli (runV (As := [.int v0, .int v1]) (rest := []) ⟨hx, hb, hml, hown, hts⟩ (t_X10_whyNotJudged l D cy base τ G_1 a h_a v0 v1) sV_X10_510 hK (t_recv cf_11 hK hT h_a) ⟨Nat.le_trans hZ hS.1, hT⟩ ⟨Nat.le_of_ble_eq_true rfl, Nat.le_of_ble_eq_true rfl⟩ rfl hl.1 rfl (Nat.le_of_ble_eq_true rfl) dX10_judge_8 ⟨Nat.le_of_ble_eq_true rfl, Nat.le_of_ble_eq_true rfl⟩) (fun r_2 hr_2 => ?_)
  have hr_2_c := hr_2
  rcases hr_2_c with hr_2_0 | hr_2_1 | hr_2_2 | hr_2_3
  · skip
    obtain ⟨er_2, hr_2_0_f0, hr_2_0_f1, hr_2_0_f2, hr_2_0_f3⟩ := hr_2_0
    have hr_2_0_f0 : 0 ≤ v0.toInt := hr_2_0_f0
    have hr_2_0_f1 : v0.toInt ≤ 3 := hr_2_0_f1
    have hr_2_0_f2 : 0 ≤ v1.toInt := hr_2_0_f2
    have hr_2_0_f3 : v1.toInt ≤ 5 := hr_2_0_f3
    subst er_2
    refine W.eq (g2 := F0 m 11 ls [.int 0]) rfl ?_
    refine lv_istore_n (lv' := [(3, .int 0), (0, .ref a), (1, .int v0), (2, .int v1)]) hx hb dX10_judge_11 rfl hl (by decide) rfl (fun ls hl => ?_)
    refine lv_iload_n hx hb dX10_judge_12 rfl (lv_at hl 0 rfl) ?_
    refine lv_if_eq (tgt := 20) hx hb dX10_judge_13 (by decide) (fun _ => ?_) (fun c_3 => absurd (by decide) c_3)
    refine lv_aload_n hx hb dX10_judge_20 rfl (lv_at hl 1 rfl) ?_
    refine lv_iload_n hx hb dX10_judge_21 rfl (lv_at hl 2 rfl) ?_
    refine lv_iload_n hx hb dX10_judge_22 rfl (lv_at hl 3 rfl) ?_
    refine pu_calli (runV (As := [.int v0, .int v1]) (rest := []) ⟨hx, hb, hml, hown, hts⟩ (t_X10_judged l D cy base τ G_1 a h_a v0 ⟨by omega, by omega⟩ v1 ⟨by omega, by omega⟩) sV_X10_513 hK (t_recv cf_11 hK hT h_a) ⟨Nat.le_trans hZ hS.1, hT⟩ ⟨Nat.le_of_ble_eq_true rfl, Nat.le_of_ble_eq_true rfl⟩ rfl hl.1 rfl (Nat.le_of_ble_eq_true rfl) dX10_judge_23 ⟨Nat.le_of_ble_eq_true rfl, Nat.le_of_ble_eq_true rfl⟩) (fun r_4 hr_4 => ?_)
    exact ret_i hx hb hr hlocks ⟨⟨hS.1, hS.2.1⟩, G_1, hF, ⟨_, rfl, trivial⟩, hT⟩ hS.2.2 (Nat.le_of_ble_eq_true rfl) (Nat.le_of_ble_eq_true rfl) dX10_judge_26
  · skip
    have er_2 := hr_2_1
    subst er_2
    refine W.eq (g2 := F0 m 11 ls [.int (-2)]) rfl ?_
    refine lv_istore_n (lv' := [(3, .int (-2)), (0, .ref a), (1, .int v0), (2, .int v1)]) hx hb dX10_judge_11 rfl hl (by decide) rfl (fun ls hl => ?_)
    refine lv_iload_n hx hb dX10_judge_12 rfl (lv_at hl 0 rfl) ?_
    refine lv_if_eq (tgt := 20) hx hb dX10_judge_13 (by decide) (fun c_5 => absurd c_5 (by decide)) (fun _ => ?_)
    refine lv_iload_n hx hb dX10_judge_16 rfl (lv_at hl 0 rfl) ?_
    refine lv_goto (tgt := 26) hx hb dX10_judge_17 (by decide) ?_
    exact ret_i hx hb hr hlocks ⟨⟨hS.1, hS.2.1⟩, G_1, hF, ⟨_, rfl, trivial⟩, hT⟩ hS.2.2 (Nat.le_of_ble_eq_true rfl) (Nat.le_of_ble_eq_true rfl) dX10_judge_26
  · skip
    have er_2 := hr_2_2
    subst er_2
    refine W.eq (g2 := F0 m 11 ls [.int (-6)]) rfl ?_
    refine lv_istore_n (lv' := [(3, .int (-6)), (0, .ref a), (1, .int v0), (2, .int v1)]) hx hb dX10_judge_11 rfl hl (by decide) rfl (fun ls hl => ?_)
    refine lv_iload_n hx hb dX10_judge_12 rfl (lv_at hl 0 rfl) ?_
    refine lv_if_eq (tgt := 20) hx hb dX10_judge_13 (by decide) (fun c_6 => absurd c_6 (by decide)) (fun _ => ?_)
    refine lv_iload_n hx hb dX10_judge_16 rfl (lv_at hl 0 rfl) ?_
    refine lv_goto (tgt := 26) hx hb dX10_judge_17 (by decide) ?_
    exact ret_i hx hb hr hlocks ⟨⟨hS.1, hS.2.1⟩, G_1, hF, ⟨_, rfl, trivial⟩, hT⟩ hS.2.2 (Nat.le_of_ble_eq_true rfl) (Nat.le_of_ble_eq_true rfl) dX10_judge_26
  · skip
    have er_2 := hr_2_3
    subst er_2
    refine W.eq (g2 := F0 m 11 ls [.int (-1)]) rfl ?_
    refine lv_istore_n (lv' := [(3, .int (-1)), (0, .ref a), (1, .int v0), (2, .int v1)]) hx hb dX10_judge_11 rfl hl (by decide) rfl (fun ls hl => ?_)
    refine lv_iload_n hx hb dX10_judge_12 rfl (lv_at hl 0 rfl) ?_
    refine lv_if_eq (tgt := 20) hx hb dX10_judge_13 (by decide) (fun c_7 => absurd c_7 (by decide)) (fun _ => ?_)
    refine lv_iload_n hx hb dX10_judge_16 rfl (lv_at hl 0 rfl) ?_
    refine lv_goto (tgt := 26) hx hb dX10_judge_17 (by decide) ?_
    exact ret_i hx hb hr hlocks ⟨⟨hS.1, hS.2.1⟩, G_1, hF, ⟨_, rfl, trivial⟩, hT⟩ hS.2.2 (Nat.le_of_ble_eq_true rfl) (Nat.le_of_ble_eq_true rfl) dX10_judge_26
set_option maxHeartbeats 4000000 in
set_option maxRecDepth 100000 in
theorem t_X10_paid (l : Launch) (D : va_G) (cy : Nat → ClassId) (base : Nat) (τ : Nat → Nat) (G : Gh) (a : Nat) (h_a : τ a = 11) (v0 : Int32) (v1 : Int32) (v2 : Int32) : MM l yX10_paid cX10_paid 6 (some .long) 3 0 0 D cy [.ref a, .int v0, .int v1, .int v2] (PT D cy base τ G) (QT D cy base τ G [11] (fun v g => ∃ r : Int64, v = some (.long r) ∧ (True))) (RA base) := by
  refine MM.of (by decide) (Nat.le_of_ble_eq_true rfl) ?_
  intro p e s m below meth c C hPT ls hl
  obtain ⟨hx, hb, hr, hml, hown, hts, hlocks, hK, hnm⟩ := C
  obtain ⟨hZ, hT⟩ := hPT
  have hS : va_S (RA base) s.heap s.heap [] := va_S.rf
  have hF : Fr τ [11] G G := Fr.rf
  have hl : lv_has ls 6 [(0, .ref a), (1, .int v0), (2, .int v1), (3, .int v2)] := hl
  refine lv_aload_n hx hb dX10_paid_0 rfl (lv_at hl 0 rfl) ?_
  refine lv_iconst (v := 0) hx hb dX10_paid_1 (by decide) ?_
  refine t_puti (x := 0) cf_11 hx hb hts hown hK hT hS h_a (k := 0) rfl trivial fl_X10_111 (fun _ h9 => h9) rfl rfl rfl dX10_paid_2 (fun H locs G_1 eG_1 hT hS => ?_)
  have hF := hF.wI eG_1 h_a rfl
  refine lv_aload_n hx hb dX10_paid_5 rfl (lv_at hl 0 rfl) ?_
  refine lv_iload_n hx hb dX10_paid_6 rfl (lv_at hl 3 rfl) ?_
  refine pu_calli (runV (As := [.int v2]) (rest := []) ⟨hx, hb, hml, hown, hts⟩ (t_X10_isThing l D cy base τ G_1 a h_a v2) sV_X10_350 hK (t_recv cf_11 hK hT h_a) ⟨Nat.le_trans hZ hS.1, hT⟩ ⟨Nat.le_of_ble_eq_true rfl, Nat.le_of_ble_eq_true rfl⟩ rfl hl.1 rfl (Nat.le_of_ble_eq_true rfl) dX10_paid_7 ⟨Nat.le_of_ble_eq_true rfl, Nat.le_of_ble_eq_true rfl⟩) (fun r_2 hr_2 => ?_)
  have hr_2_c := hr_2
  rcases hr_2_c with hr_2_0 | hr_2_1
  · skip
    obtain ⟨er_2, hr_2_0_f0, hr_2_0_f1⟩ := hr_2_0
    have hr_2_0_f0 : 0 ≤ v2.toInt := hr_2_0_f0
    have hr_2_0_f1 : v2.toInt ≤ 2 := hr_2_0_f1
    subst er_2
    refine W.eq (g2 := F0 m 10 ls [.int 1]) rfl ?_
    refine lv_if_eq (tgt := 31) hx hb dX10_paid_10 (by decide) (fun c_3 => absurd c_3 (by decide)) (fun _ => ?_)
    refine lv_aload_n hx hb dX10_paid_13 rfl (lv_at hl 0 rfl) ?_
    refine lv_iload_n hx hb dX10_paid_14 rfl (lv_at hl 1 rfl) ?_
    refine lv_iload_n hx hb dX10_paid_15 rfl (lv_at hl 2 rfl) ?_
    refine pu_calli (runV (As := [.int v0, .int v1]) (rest := []) ⟨hx, hb, hml, hown, hts⟩ (t_X10_whyNotJudged l D cy base τ G_1 a h_a v0 v1) sV_X10_510 hK (t_recv cf_11 hK hT h_a) ⟨Nat.le_trans hZ hS.1, hT⟩ ⟨Nat.le_of_ble_eq_true rfl, Nat.le_of_ble_eq_true rfl⟩ rfl hl.1 rfl (Nat.le_of_ble_eq_true rfl) dX10_paid_16 ⟨Nat.le_of_ble_eq_true rfl, Nat.le_of_ble_eq_true rfl⟩) (fun r_4 hr_4 => ?_)
    have hr_4_c := hr_4
    rcases hr_4_c with hr_4_0 | hr_4_1 | hr_4_2 | hr_4_3
    · skip
      obtain ⟨er_4, hr_4_0_f0, hr_4_0_f1, hr_4_0_f2, hr_4_0_f3⟩ := hr_4_0
      have hr_4_0_f0 : 0 ≤ v0.toInt := hr_4_0_f0
      have hr_4_0_f1 : v0.toInt ≤ 3 := hr_4_0_f1
      have hr_4_0_f2 : 0 ≤ v1.toInt := hr_4_0_f2
      have hr_4_0_f3 : v1.toInt ≤ 5 := hr_4_0_f3
      subst er_4
      refine W.eq (g2 := F0 m 19 ls [.int 0]) rfl ?_
      refine lv_if_ne (tgt := 31) hx hb dX10_paid_19 (by decide) (fun c_5 => absurd rfl c_5) (fun _ => ?_)
      refine lv_aload_n hx hb dX10_paid_22 rfl (lv_at hl 0 rfl) ?_
      refine lv_iload_n hx hb dX10_paid_23 rfl (lv_at hl 1 rfl) ?_
      refine lv_iload_n hx hb dX10_paid_24 rfl (lv_at hl 2 rfl) ?_
      refine pu_calli (runV (As := [.int v0, .int v1]) (rest := []) ⟨hx, hb, hml, hown, hts⟩ (t_X10_judged l D cy base τ G_1 a h_a v0 ⟨by omega, by omega⟩ v1 ⟨by omega, by omega⟩) sV_X10_513 hK (t_recv cf_11 hK hT h_a) ⟨Nat.le_trans hZ hS.1, hT⟩ ⟨Nat.le_of_ble_eq_true rfl, Nat.le_of_ble_eq_true rfl⟩ rfl hl.1 rfl (Nat.le_of_ble_eq_true rfl) dX10_paid_25 ⟨Nat.le_of_ble_eq_true rfl, Nat.le_of_ble_eq_true rfl⟩) (fun r_6 hr_6 => ?_)
      refine lv_if_eq (tgt := 35) hx hb dX10_paid_28 (by decide) (fun c_7 => ?_) (fun c_7 => ?_)
      · skip
        have tc_7 : r_6.toInt = 0 := (fa_eq _ _).mp c_7
        refine lv_iconst (v := 0) hx hb dX10_paid_35 (by decide) ?_
        refine lv_istore (lv' := [(4, .int 0), (0, .ref a), (1, .int v0), (2, .int v1), (3, .int v2)]) hx hb dX10_paid_36 hl (by decide) rfl (fun ls hl => ?_)
        refine lv_iconst (v := 0) hx hb dX10_paid_38 (by decide) ?_
        refine lv_istore (lv' := [(5, .int 0), (4, .int 0), (0, .ref a), (1, .int v0), (2, .int v1), (3, .int v2)]) hx hb dX10_paid_39 hl (by decide) rfl (fun ls hl => ?_)
        refine W.loop (σ := Int32 × Int32 × Gh) (fun w8 H locs ls => 0 ≤ w8.2.1.toInt ∧ w8.2.1.toInt ≤ 60 ∧ Fr τ [11] G w8.2.2 ∧ TY D cy base τ w8.2.2 H ∧ va_S (RA base) s.heap H locs ∧ lv_has ls 6 [(4, .int w8.1), (5, .int w8.2.1), (0, .ref a), (1, .int v0), (2, .int v1), (3, .int v2)]) (fun w8 => (60 - w8.2.1.toInt).toNat) ?_ ((0 : Int32), (0 : Int32), G_1) _ _ _ ⟨(by show 0 ≤ (0 : Int32).toInt; decide), (by show (0 : Int32).toInt ≤ 60; decide), hF, hT, hS, lv_sub hl [1, 0, 2, 3, 4, 5] rfl⟩
        intro w8 H locs ls hI ih8
        obtain ⟨x8_4, x8_5, G_8⟩ := w8
        obtain ⟨i8_0, i8_1, hF, hT, hS, hl⟩ := hI
        have i8_0 : 0 ≤ x8_5.toInt := i8_0
        have i8_1 : x8_5.toInt ≤ 60 := i8_1
        have hF : Fr τ [11] G G_8 := hF
        have hT : TY D cy base τ G_8 H := hT
        have hS : va_S (RA base) s.heap H locs := hS
        have hl : lv_has ls 6 [(4, .int x8_4), (5, .int x8_5), (0, .ref a), (1, .int v0), (2, .int v1), (3, .int v2)] := hl
        refine lv_iload hx hb dX10_paid_41 (lv_at hl 1 rfl) ?_
        refine lv_aload_n hx hb dX10_paid_43 rfl (lv_at hl 2 rfl) ?_
        refine t_getr cf_11 hx hb hts hown hK hT h_a (k := 2) (P := fun q => τ q = 52) rfl (fun _ h9 => h9) fl_X10_13 (fun _ h9 => h9) dX10_paid_44 (fun q_9 eq_9 hq_9 => ?_)
        have eq_9 := (hF.r h_a (by decide) rfl _).symm.trans eq_9
        refine lv_iload_n hx hb dX10_paid_47 rfl (lv_at hl 3 rfl) ?_
        refine t_iald (n := 4) (i := v0) rfl (by decide) hx hb hK hT hq_9 (hT.len hq_9 (by decide)) ⟨by omega, by omega⟩ dX10_paid_48 (fun z_10 ez_10 rz_10 => ?_)
        have rz_10 : 0 ≤ z_10.toInt ∧ z_10.toInt ≤ 60 := rz_10
        have ez_10 : z_10 = G.1 q_9 v0.toNatClampNeg := ez_10.trans (hF.i hq_9 (by decide) rfl _)
        refine lv_icmp_ge (tgt := 76) hx hb dX10_paid_49 (by decide) (fun c_11 => ?_) (fun c_11 => ?_)
        · skip
          have tc_11 : z_10.toInt ≤ x8_5.toInt := (fa_le _ _).mp c_11
          refine lv_iload hx hb dX10_paid_76 (lv_at hl 0 rfl) ?_
          refine lv_aload_n hx hb dX10_paid_78 rfl (lv_at hl 2 rfl) ?_
          refine t_getr cf_11 hx hb hts hown hK hT h_a (k := 24) (P := fun q => τ q = 74) rfl (fun _ h9 => h9) fl_X10_55 (fun _ h9 => h9) dX10_paid_79 (fun q_12 eq_12 hq_12 => ?_)
          have eq_12 := (hF.r h_a (by decide) rfl _).symm.trans eq_12
          refine lv_iconst (v := 1) hx hb dX10_paid_82 (by decide) ?_
          refine t_iald (n := 30) (i := 1) rfl (by decide) hx hb hK hT hq_12 (hT.len hq_12 (by decide)) ⟨by decide, by decide⟩ dX10_paid_83 (fun z_13 ez_13 rz_13 => ?_)
          have ez_13 : z_13 = G_8.1 q_12 1 := ez_13
          have ez_13 : z_13 = G.1 q_12 1 := ez_13.trans (hF.i hq_12 (by decide) rfl _)
          have qz_13 : (1 % 6 = 0 → 0 ≤ z_13.toInt ∧ z_13.toInt ≤ 9) ∧ (1 % 6 = 1 → 0 ≤ z_13.toInt ∧ z_13.toInt ≤ 50) ∧ (1 % 6 = 3 → 0 ≤ z_13.toInt ∧ z_13.toInt ≤ 50) := rz_13
          have rz_13 : 0 ≤ z_13.toInt ∧ z_13.toInt ≤ 50 := by omega
          refine lv_imul hx hb dX10_paid_84 ?_
          refine lv_topi (fun z_14 ez_14 => ?_)
          refine lv_istore (lv' := [(5, .int z_14), (4, .int x8_4), (0, .ref a), (1, .int v0), (2, .int v1), (3, .int v2)]) hx hb dX10_paid_85 hl (by decide) rfl (fun ls hl => ?_)
          refine lv_ldc2 (v := 1000) hx hb hown (hts _ kl_X10_343) dX10_paid_87 ?_
          refine lv_iload hx hb dX10_paid_90 (lv_at hl 1 rfl) ?_
          refine lv_i2l hx hb dX10_paid_92 rfl ?_
          refine lv_topl (fun z_15 ez_15 => ?_)
          have tz_15 : z_15.toInt = x8_4.toInt := by rw [ez_15]; exact wide_t x8_4
          have az_15 := min_t x8_4
          have bz_15 := max_t x8_4
          refine lv_aload_n hx hb dX10_paid_93 rfl (lv_at hl 2 rfl) ?_
          refine t_getr cf_11 hx hb hts hown hK hT h_a (k := 24) (P := fun q => τ q = 74) rfl (fun _ h9 => h9) fl_X10_55 (fun _ h9 => h9) dX10_paid_94 (fun q_16 eq_16 hq_16 => ?_)
          have w_17 : q_12 = q_16 := Option.some.inj (eq_12.symm.trans ((hF.r h_a (by decide) rfl _).symm.trans eq_16))
          subst w_17
          refine lv_iconst (v := 2) hx hb dX10_paid_97 (by decide) ?_
          refine t_iald (n := 30) (i := 2) rfl (by decide) hx hb hK hT hq_12 (hT.len hq_12 (by decide)) ⟨by decide, by decide⟩ dX10_paid_98 (fun z_18 ez_18 rz_18 => ?_)
          have ez_18 : z_18 = G_8.1 q_12 2 := ez_18
          have ez_18 : z_18 = G.1 q_12 2 := ez_18.trans (hF.i hq_12 (by decide) rfl _)
          refine lv_i2l hx hb dX10_paid_99 rfl ?_
          refine lv_topl (fun z_19 ez_19 => ?_)
          have tz_19 : z_19.toInt = z_18.toInt := by rw [ez_19]; exact wide_t z_18
          have az_19 := min_t z_18
          have bz_19 := max_t z_18
          refine lv_aload_n hx hb dX10_paid_100 rfl (lv_at hl 2 rfl) ?_
          refine t_getr cf_11 hx hb hts hown hK hT h_a (k := 24) (P := fun q => τ q = 74) rfl (fun _ h9 => h9) fl_X10_55 (fun _ h9 => h9) dX10_paid_101 (fun q_20 eq_20 hq_20 => ?_)
          have w_21 : q_12 = q_20 := Option.some.inj (eq_12.symm.trans ((hF.r h_a (by decide) rfl _).symm.trans eq_20))
          subst w_21
          refine lv_iconst (v := 1) hx hb dX10_paid_104 (by decide) ?_
          refine t_iald (n := 30) (i := 1) rfl (by decide) hx hb hK hT hq_12 (hT.len hq_12 (by decide)) ⟨by decide, by decide⟩ dX10_paid_105 (fun z_22 ez_22 rz_22 => ?_)
          have w_23 : z_13 = z_22 := ez_13.trans (ez_22.trans (hF.i hq_12 (by decide) rfl _)).symm
          subst w_23
          refine lv_i2l hx hb dX10_paid_106 rfl ?_
          refine lv_topl (fun z_24 ez_24 => ?_)
          have tz_24 : z_24.toInt = z_13.toInt := by rw [ez_24]; exact wide_t z_13
          refine lv_aload_n hx hb dX10_paid_107 rfl (lv_at hl 2 rfl) ?_
          refine lv_iload_n hx hb dX10_paid_108 rfl (lv_at hl 5 rfl) ?_
          refine pu_calli (runV (As := [.int v2]) (rest := [.long z_24, .long z_19, .long z_15, .long 1000]) ⟨hx, hb, hml, hown, hts⟩ (t_X10_priceOf l D cy base τ G_8 a h_a v2 ⟨by omega, by omega⟩) sV_X10_363 hK (t_recv cf_11 hK hT h_a) ⟨Nat.le_trans hZ hS.1, hT⟩ ⟨Nat.le_of_ble_eq_true rfl, Nat.le_of_ble_eq_true rfl⟩ rfl hl.1 rfl (Nat.le_of_ble_eq_true rfl) dX10_paid_109 ⟨Nat.le_of_ble_eq_true rfl, Nat.le_of_ble_eq_true rfl⟩) (fun r_25 hr_25 => ?_)
          refine lv_i2l hx hb dX10_paid_112 rfl ?_
          refine lv_topl (fun z_26 ez_26 => ?_)
          have tz_26 : z_26.toInt = r_25.toInt := by rw [ez_26]; exact wide_t r_25
          have az_26 := min_t r_25
          have bz_26 := max_t r_25
          refine lv_lmul hx hb dX10_paid_113 ?_
          refine lv_topl (fun z_27 ez_27 => ?_)
          refine lv_ladd hx hb dX10_paid_114 ?_
          refine lv_topl (fun z_28 ez_28 => ?_)
          refine lv_lmul hx hb dX10_paid_115 ?_
          refine lv_topl (fun z_29 ez_29 => ?_)
          refine lv_aload_n hx hb dX10_paid_116 rfl (lv_at hl 2 rfl) ?_
          refine lv_iload_n hx hb dX10_paid_117 rfl (lv_at hl 5 rfl) ?_
          refine lv_aload_n hx hb dX10_paid_118 rfl (lv_at hl 2 rfl) ?_
          refine lv_iload_n hx hb dX10_paid_119 rfl (lv_at hl 4 rfl) ?_
          refine lv_iload_n hx hb dX10_paid_120 rfl (lv_at hl 5 rfl) ?_
          refine lv_aload_n hx hb dX10_paid_121 rfl (lv_at hl 2 rfl) ?_
          refine t_getr cf_11 hx hb hts hown hK hT h_a (k := 27) (P := fun q => τ q = 77) rfl (fun _ h9 => h9) fl_X10_65 (fun _ h9 => h9) dX10_paid_122 (fun q_30 eq_30 hq_30 => ?_)
          have eq_30 := (hF.r h_a (by decide) rfl _).symm.trans eq_30
          refine lv_iload_n hx hb dX10_paid_125 rfl (lv_at hl 4 rfl) ?_
          refine t_iald (n := 30) (i := v1) rfl (by decide) hx hb hK hT hq_30 (hT.len hq_30 (by decide)) ⟨by omega, by omega⟩ dX10_paid_126 (fun z_31 ez_31 rz_31 => ?_)
          have ez_31 : z_31 = G.1 q_30 v1.toNatClampNeg := ez_31.trans (hF.i hq_30 (by decide) rfl _)
          refine pu_calli (runV (As := [.int v1, .int v2, .int z_31]) (rest := [.int v2, .ref a, .long z_29, .long 1000]) ⟨hx, hb, hml, hown, hts⟩ (t_X10_wantsOf l D cy base τ G_8 a h_a v1 ⟨by omega, by omega⟩ v2 ⟨by omega, by omega⟩ z_31) sV_X10_353 hK (t_recv cf_11 hK hT h_a) ⟨Nat.le_trans hZ hS.1, hT⟩ ⟨Nat.le_of_ble_eq_true rfl, Nat.le_of_ble_eq_true rfl⟩ rfl hl.1 rfl (Nat.le_of_ble_eq_true rfl) dX10_paid_127 ⟨Nat.le_of_ble_eq_true rfl, Nat.le_of_ble_eq_true rfl⟩) (fun r_32 hr_32 => ?_)
          refine lv_iload hx hb dX10_paid_130 (lv_at hl 0 rfl) ?_
          refine pu_calll (runV (As := [.int v2, .int r_32, .int z_14]) (rest := [.long z_29, .long 1000]) ⟨hx, hb, hml, hown, hts⟩ (t_X10_outcome l D cy base τ G_8 a h_a v2 ⟨by omega, by omega⟩ r_32 z_14) sV_X10_366 hK (t_recv cf_11 hK hT h_a) ⟨Nat.le_trans hZ hS.1, hT⟩ ⟨Nat.le_of_ble_eq_true rfl, Nat.le_of_ble_eq_true rfl⟩ rfl hl.1 rfl (Nat.le_of_ble_eq_true rfl) dX10_paid_132 ⟨Nat.le_of_ble_eq_true rfl, Nat.le_of_ble_eq_true rfl⟩) (fun r_33 hr_33 => ?_)
          refine lv_ladd hx hb dX10_paid_135 ?_
          refine lv_topl (fun z_34 ez_34 => ?_)
          refine lv_lmul hx hb dX10_paid_136 ?_
          refine lv_topl (fun z_35 ez_35 => ?_)
          exact ret_l hx hb hr hlocks ⟨⟨hS.1, hS.2.1⟩, G_8, hF, ⟨_, rfl, trivial⟩, hT⟩ hS.2.2 (Nat.le_of_ble_eq_true rfl) (Nat.le_of_ble_eq_true rfl) dX10_paid_137
        · skip
          have tc_11 : ¬ z_10.toInt ≤ x8_5.toInt := fun h => c_11 ((fa_le _ _).mpr h)
          refine lv_iload hx hb dX10_paid_52 (lv_at hl 0 rfl) ?_
          refine lv_aload_n hx hb dX10_paid_54 rfl (lv_at hl 2 rfl) ?_
          refine t_getr cf_11 hx hb hts hown hK hT h_a (k := 3) (P := fun q => τ q = 53) rfl (fun _ h9 => h9) fl_X10_16 (fun _ h9 => h9) dX10_paid_55 (fun q_36 eq_36 hq_36 => ?_)
          have eq_36 := (hF.r h_a (by decide) rfl _).symm.trans eq_36
          refine lv_bipush (v := 60) hx hb dX10_paid_58 (by decide) ?_
          refine lv_iload_n hx hb dX10_paid_60 rfl (lv_at hl 3 rfl) ?_
          refine lv_imul hx hb dX10_paid_61 ?_
          refine lv_topi (fun z_37 ez_37 => ?_)
          have tz_37 : z_37.toInt = 60 * v0.toInt := mul_t ez_37 (show -2147483648 ≤ 60 * v0.toInt by omega) (show 60 * v0.toInt < 2147483648 by omega)
          refine lv_iload hx hb dX10_paid_62 (lv_at hl 1 rfl) ?_
          refine lv_iadd hx hb dX10_paid_64 ?_
          refine lv_topi (fun z_38 ez_38 => ?_)
          have tz_38 : z_38.toInt = z_37.toInt + x8_5.toInt := add_t ez_38 (show -2147483648 ≤ z_37.toInt + x8_5.toInt by omega) (show z_37.toInt + x8_5.toInt < 2147483648 by omega)
          refine t_lald (n := 240) (i := z_38) rfl (by decide) hx hb hK hT hq_36 (hT.len hq_36 (by decide)) ⟨by omega, by omega⟩ dX10_paid_65 (fun z_39 ez_39 => ?_)
          have ez_39 := ez_39.trans (hF.l hq_36 (by decide) rfl _)
          refine lv_l2i hx hb dX10_paid_66 rfl ?_
          refine lv_topi (fun z_40 ez_40 => ?_)
          refine lv_iadd hx hb dX10_paid_67 ?_
          refine lv_topi (fun z_41 ez_41 => ?_)
          refine lv_istore (lv' := [(4, .int z_41), (5, .int x8_5), (0, .ref a), (1, .int v0), (2, .int v1), (3, .int v2)]) hx hb dX10_paid_68 hl (by decide) rfl (fun ls hl => ?_)
          obtain ⟨z_42, ez_42⟩ : ∃ y : Int32, y = x8_5 + 1 := ⟨_, rfl⟩
          have tz_42 : z_42.toInt = x8_5.toInt + 1 := add_t ez_42 (show -2147483648 ≤ x8_5.toInt + 1 by omega) (show x8_5.toInt + 1 < 2147483648 by omega)
          refine lv_iinc (v := z_42) (lv' := [(5, .int z_42), (4, .int z_41), (0, .ref a), (1, .int v0), (2, .int v1), (3, .int v2)]) hx hb dX10_paid_70 hl (k := 1) rfl (by rw [ez_42]; rfl) (by decide) rfl (fun ls hl => ?_)
          refine lv_goto (tgt := 41) hx hb dX10_paid_73 (by decide) ?_
          exact ih8 (z_41, z_42, G_8) _ _ _ (by show (60 - z_42.toInt).toNat < (60 - x8_5.toInt).toNat; omega) ⟨(by show 0 ≤ z_42.toInt; omega), (by show z_42.toInt ≤ 60; omega), hF, hT, hS, lv_sub hl [1, 0, 2, 3, 4, 5] rfl⟩
      · skip
        have tc_7 : ¬ r_6.toInt = 0 := fun h => c_7 ((fa_eq _ _).mpr h)
        refine lv_ldc2 (v := (-1000000000000)) hx hb hown (hts _ kl_X10_381) dX10_paid_31 ?_
        exact ret_l hx hb hr hlocks ⟨⟨hS.1, hS.2.1⟩, G_1, hF, ⟨_, rfl, trivial⟩, hT⟩ hS.2.2 (Nat.le_of_ble_eq_true rfl) (Nat.le_of_ble_eq_true rfl) dX10_paid_34
    · skip
      have er_4 := hr_4_1
      subst er_4
      refine W.eq (g2 := F0 m 19 ls [.int (-2)]) rfl ?_
      refine lv_if_ne (tgt := 31) hx hb dX10_paid_19 (by decide) (fun _ => ?_) (fun c_43 => absurd c_43 (by decide))
      refine lv_ldc2 (v := (-1000000000000)) hx hb hown (hts _ kl_X10_381) dX10_paid_31 ?_
      exact ret_l hx hb hr hlocks ⟨⟨hS.1, hS.2.1⟩, G_1, hF, ⟨_, rfl, trivial⟩, hT⟩ hS.2.2 (Nat.le_of_ble_eq_true rfl) (Nat.le_of_ble_eq_true rfl) dX10_paid_34
    · skip
      have er_4 := hr_4_2
      subst er_4
      refine W.eq (g2 := F0 m 19 ls [.int (-6)]) rfl ?_
      refine lv_if_ne (tgt := 31) hx hb dX10_paid_19 (by decide) (fun _ => ?_) (fun c_44 => absurd c_44 (by decide))
      refine lv_ldc2 (v := (-1000000000000)) hx hb hown (hts _ kl_X10_381) dX10_paid_31 ?_
      exact ret_l hx hb hr hlocks ⟨⟨hS.1, hS.2.1⟩, G_1, hF, ⟨_, rfl, trivial⟩, hT⟩ hS.2.2 (Nat.le_of_ble_eq_true rfl) (Nat.le_of_ble_eq_true rfl) dX10_paid_34
    · skip
      have er_4 := hr_4_3
      subst er_4
      refine W.eq (g2 := F0 m 19 ls [.int (-1)]) rfl ?_
      refine lv_if_ne (tgt := 31) hx hb dX10_paid_19 (by decide) (fun _ => ?_) (fun c_45 => absurd c_45 (by decide))
      refine lv_ldc2 (v := (-1000000000000)) hx hb hown (hts _ kl_X10_381) dX10_paid_31 ?_
      exact ret_l hx hb hr hlocks ⟨⟨hS.1, hS.2.1⟩, G_1, hF, ⟨_, rfl, trivial⟩, hT⟩ hS.2.2 (Nat.le_of_ble_eq_true rfl) (Nat.le_of_ble_eq_true rfl) dX10_paid_34
  · skip
    have er_2 := hr_2_1
    subst er_2
    refine W.eq (g2 := F0 m 10 ls [.int 0]) rfl ?_
    refine lv_if_eq (tgt := 31) hx hb dX10_paid_10 (by decide) (fun _ => ?_) (fun c_46 => absurd (by decide) c_46)
    refine lv_ldc2 (v := (-1000000000000)) hx hb hown (hts _ kl_X10_381) dX10_paid_31 ?_
    exact ret_l hx hb hr hlocks ⟨⟨hS.1, hS.2.1⟩, G_1, hF, ⟨_, rfl, trivial⟩, hT⟩ hS.2.2 (Nat.le_of_ble_eq_true rfl) (Nat.le_of_ble_eq_true rfl) dX10_paid_34
set_option maxHeartbeats 4000000 in
set_option maxRecDepth 100000 in
theorem t_X10_years (l : Launch) (D : va_G) (cy : Nat → ClassId) (base : Nat) (τ : Nat → Nat) (G : Gh) (a : Nat) (h_a : τ a = 11) (v0 : Int32) (v1 : Int32) (v2 : Int32) (v3 : Int32) (v4 : Int32) (v5 : Int32) : MM l yX10_years cX10_years 11 (some .int) 3 0 0 D cy [.ref a, .int v0, .int v1, .int v2, .int v3, .int v4, .int v5] (PT D cy base τ G) (QT D cy base τ G [11, 91] (fun v g => ∃ r : Int32, v = some (.int r) ∧ (True))) (RA base) := by
  refine MM.of (by decide) (Nat.le_of_ble_eq_true rfl) ?_
  intro p e s m below meth c C hPT ls hl
  obtain ⟨hx, hb, hr, hml, hown, hts, hlocks, hK, hnm⟩ := C
  obtain ⟨hZ, hT⟩ := hPT
  have hS : va_S (RA base) s.heap s.heap [] := va_S.rf
  have hF : Fr τ [11, 91] G G := Fr.rf
  have hl : lv_has ls 11 [(0, .ref a), (1, .int v0), (2, .int v1), (3, .int v2), (4, .int v3), (5, .int v4), (6, .int v5)] := hl
  refine lv_aload_n hx hb dX10_years_0 rfl (lv_at hl 0 rfl) ?_
  refine lv_iconst (v := 0) hx hb dX10_years_1 (by decide) ?_
  refine t_puti (x := 0) cf_11 hx hb hts hown hK hT hS h_a (k := 0) rfl trivial fl_X10_111 (fun _ h9 => h9) rfl rfl rfl dX10_years_2 (fun H locs G_1 eG_1 hT hS => ?_)
  have hF := hF.wI eG_1 h_a rfl
  refine lv_iload_n hx hb dX10_years_5 rfl (lv_at hl 1 rfl) ?_
  refine pu_calli (runS (As := [.int v0]) (rest := []) ⟨hx, hb, hml, hown, hts⟩ (t_X10_isSeed l D cy base τ G_1 v0) sS_X10_492 hK ⟨Nat.le_trans hZ hS.1, hT⟩ ⟨Nat.le_of_ble_eq_true rfl, Nat.le_of_ble_eq_true rfl⟩ rfl hl.1 rfl (Nat.le_of_ble_eq_true rfl) dX10_years_6 ⟨Nat.le_of_ble_eq_true rfl, Nat.le_of_ble_eq_true rfl⟩) (fun r_2 hr_2 => ?_)
  have hr_2_c := hr_2
  rcases hr_2_c with hr_2_0 | hr_2_1
  · skip
    obtain ⟨er_2, hr_2_0_f0, hr_2_0_f1⟩ := hr_2_0
    have hr_2_0_f0 : 0 ≤ v0.toInt := hr_2_0_f0
    have hr_2_0_f1 : v0.toInt ≤ 2000000000 := hr_2_0_f1
    subst er_2
    refine W.eq (g2 := F0 m 9 ls [.int 1]) rfl ?_
    refine lv_if_eq (tgt := 49) hx hb dX10_years_9 (by decide) (fun c_3 => absurd c_3 (by decide)) (fun _ => ?_)
    refine lv_iload_n hx hb dX10_years_12 rfl (lv_at hl 2 rfl) ?_
    refine lv_i2l hx hb dX10_years_13 rfl ?_
    refine lv_topl (fun z_4 ez_4 => ?_)
    have tz_4 : z_4.toInt = v1.toInt := by rw [ez_4]; exact wide_t v1
    have az_4 := min_t v1
    have bz_4 := max_t v1
    refine lv_lconst (v := 1) hx hb dX10_years_14 (by decide) ?_
    refine lv_ldc2 (v := 100) hx hb hown (hts _ kl_X10_282) dX10_years_15 ?_
    refine pu_calli (runS (As := [.long z_4, .long 1, .long 100]) (rest := []) ⟨hx, hb, hml, hown, hts⟩ (t_X10_in l D cy base τ G_1 z_4 1 100) sS_X10_116 hK ⟨Nat.le_trans hZ hS.1, hT⟩ ⟨Nat.le_of_ble_eq_true rfl, Nat.le_of_ble_eq_true rfl⟩ rfl hl.1 rfl (Nat.le_of_ble_eq_true rfl) dX10_years_18 ⟨Nat.le_of_ble_eq_true rfl, Nat.le_of_ble_eq_true rfl⟩) (fun r_5 hr_5 => ?_)
    have hr_5_c := hr_5
    rcases hr_5_c with hr_5_0 | hr_5_1
    · skip
      obtain ⟨er_5, hr_5_0_f0, hr_5_0_f1⟩ := hr_5_0
      have hr_5_0_f0 : 1 ≤ z_4.toInt := hr_5_0_f0
      have hr_5_0_f1 : z_4.toInt ≤ 100 := hr_5_0_f1
      subst er_5
      refine W.eq (g2 := F0 m 21 ls [.int 1]) rfl ?_
      refine lv_if_eq (tgt := 49) hx hb dX10_years_21 (by decide) (fun c_6 => absurd c_6 (by decide)) (fun _ => ?_)
      refine lv_aload_n hx hb dX10_years_24 rfl (lv_at hl 0 rfl) ?_
      refine lv_iload_n hx hb dX10_years_25 rfl (lv_at hl 3 rfl) ?_
      refine lv_iload hx hb dX10_years_26 (lv_at hl 4 rfl) ?_
      refine lv_iload hx hb dX10_years_28 (lv_at hl 5 rfl) ?_
      refine pu_calli (runV (As := [.int v2, .int v3, .int v4]) (rest := []) ⟨hx, hb, hml, hown, hts⟩ (t_X10_isStore l D cy base τ G_1 a h_a v2 v3 v4) sV_X10_375 hK (t_recv cf_11 hK hT h_a) ⟨Nat.le_trans hZ hS.1, hT⟩ ⟨Nat.le_of_ble_eq_true rfl, Nat.le_of_ble_eq_true rfl⟩ rfl hl.1 rfl (Nat.le_of_ble_eq_true rfl) dX10_years_30 ⟨Nat.le_of_ble_eq_true rfl, Nat.le_of_ble_eq_true rfl⟩) (fun r_7 hr_7 => ?_)
      have hr_7_c := hr_7
      rcases hr_7_c with hr_7_0 | hr_7_1
      · skip
        obtain ⟨er_7, hr_7_0_f0, hr_7_0_f1, hr_7_0_f2, hr_7_0_f3, hr_7_0_f4, hr_7_0_f5⟩ := hr_7_0
        have hr_7_0_f0 : 0 ≤ v2.toInt := hr_7_0_f0
        have hr_7_0_f1 : v2.toInt ≤ 5 := hr_7_0_f1
        have hr_7_0_f2 : 0 ≤ v3.toInt := hr_7_0_f2
        have hr_7_0_f3 : v3.toInt ≤ 2 := hr_7_0_f3
        have hr_7_0_f4 : 0 ≤ v4.toInt := hr_7_0_f4
        have hr_7_0_f5 : v4.toInt ≤ 999 := hr_7_0_f5
        subst er_7
        refine W.eq (g2 := F0 m 33 ls [.int 1]) rfl ?_
        refine lv_if_eq (tgt := 49) hx hb dX10_years_33 (by decide) (fun c_8 => absurd c_8 (by decide)) (fun _ => ?_)
        refine lv_iload hx hb dX10_years_36 (lv_at hl 6 rfl) ?_
        refine lv_i2l hx hb dX10_years_38 rfl ?_
        refine lv_topl (fun z_9 ez_9 => ?_)
        have tz_9 : z_9.toInt = v5.toInt := by rw [ez_9]; exact wide_t v5
        have az_9 := min_t v5
        have bz_9 := max_t v5
        refine lv_lconst (v := 0) hx hb dX10_years_39 (by decide) ?_
        refine lv_ldc2 (v := 3) hx hb hown (hts _ kl_X10_114) dX10_years_40 ?_
        refine pu_calli (runS (As := [.long z_9, .long 0, .long 3]) (rest := []) ⟨hx, hb, hml, hown, hts⟩ (t_X10_in l D cy base τ G_1 z_9 0 3) sS_X10_116 hK ⟨Nat.le_trans hZ hS.1, hT⟩ ⟨Nat.le_of_ble_eq_true rfl, Nat.le_of_ble_eq_true rfl⟩ rfl hl.1 rfl (Nat.le_of_ble_eq_true rfl) dX10_years_43 ⟨Nat.le_of_ble_eq_true rfl, Nat.le_of_ble_eq_true rfl⟩) (fun r_10 hr_10 => ?_)
        have hr_10_c := hr_10
        rcases hr_10_c with hr_10_0 | hr_10_1
        · skip
          obtain ⟨er_10, hr_10_0_f0, hr_10_0_f1⟩ := hr_10_0
          have hr_10_0_f0 : 0 ≤ z_9.toInt := hr_10_0_f0
          have hr_10_0_f1 : z_9.toInt ≤ 3 := hr_10_0_f1
          subst er_10
          refine W.eq (g2 := F0 m 46 ls [.int 1]) rfl ?_
          refine lv_if_ne (tgt := 52) hx hb dX10_years_46 (by decide) (fun _ => ?_) (fun c_11 => absurd c_11 (by decide))
          refine lv_iconst (v := 0) hx hb dX10_years_52 (by decide) ?_
          refine lv_istore (lv' := [(7, .int 0), (0, .ref a), (1, .int v0), (2, .int v1), (3, .int v2), (4, .int v3), (5, .int v4), (6, .int v5)]) hx hb dX10_years_53 hl (by decide) rfl (fun ls hl => ?_)
          refine lv_iconst (v := 0) hx hb dX10_years_55 (by decide) ?_
          refine lv_istore (lv' := [(8, .int 0), (7, .int 0), (0, .ref a), (1, .int v0), (2, .int v1), (3, .int v2), (4, .int v3), (5, .int v4), (6, .int v5)]) hx hb dX10_years_56 hl (by decide) rfl (fun ls hl => ?_)
          refine W.loop (σ := Int32 × Int32 × Gh) (fun w12 H locs ls => 0 ≤ w12.2.1.toInt ∧ w12.2.1.toInt ≤ 100 ∧ Fr τ [11, 91] G w12.2.2 ∧ TY D cy base τ w12.2.2 H ∧ va_S (RA base) s.heap H locs ∧ lv_has ls 11 [(7, .int w12.1), (8, .int w12.2.1), (0, .ref a), (1, .int v0), (2, .int v1), (3, .int v2), (4, .int v3), (5, .int v4), (6, .int v5)]) (fun w12 => (100 - w12.2.1.toInt).toNat) ?_ ((0 : Int32), (0 : Int32), G_1) _ _ _ ⟨(by show 0 ≤ (0 : Int32).toInt; decide), (by show (0 : Int32).toInt ≤ 100; decide), hF, hT, hS, lv_sub hl [1, 0, 2, 3, 4, 5, 6, 7, 8] rfl⟩
          intro w12 H locs ls hI ih12
          obtain ⟨x12_7, x12_8, G_12⟩ := w12
          obtain ⟨i12_0, i12_1, hF, hT, hS, hl⟩ := hI
          have i12_0 : 0 ≤ x12_8.toInt := i12_0
          have i12_1 : x12_8.toInt ≤ 100 := i12_1
          have hF : Fr τ [11, 91] G G_12 := hF
          have hT : TY D cy base τ G_12 H := hT
          have hS : va_S (RA base) s.heap H locs := hS
          have hl : lv_has ls 11 [(7, .int x12_7), (8, .int x12_8), (0, .ref a), (1, .int v0), (2, .int v1), (3, .int v2), (4, .int v3), (5, .int v4), (6, .int v5)] := hl
          refine lv_iload hx hb dX10_years_58 (lv_at hl 1 rfl) ?_
          refine lv_iload_n hx hb dX10_years_60 rfl (lv_at hl 4 rfl) ?_
          refine lv_icmp_ge (tgt := 175) hx hb dX10_years_61 (by decide) (fun c_13 => ?_) (fun c_13 => ?_)
          · skip
            have tc_13 : v1.toInt ≤ x12_8.toInt := (fa_le _ _).mp c_13
            refine lv_iload hx hb dX10_years_175 (lv_at hl 0 rfl) ?_
            exact ret_i hx hb hr hlocks ⟨⟨hS.1, hS.2.1⟩, G_12, hF, ⟨_, rfl, trivial⟩, hT⟩ hS.2.2 (Nat.le_of_ble_eq_true rfl) (Nat.le_of_ble_eq_true rfl) dX10_years_177
          · skip
            have tc_13 : ¬ v1.toInt ≤ x12_8.toInt := fun h => c_13 ((fa_le _ _).mpr h)
            refine lv_aload_n hx hb dX10_years_64 rfl (lv_at hl 2 rfl) ?_
            refine lv_iload_n hx hb dX10_years_65 rfl (lv_at hl 3 rfl) ?_
            refine lv_i2l hx hb dX10_years_66 rfl ?_
            refine lv_topl (fun z_14 ez_14 => ?_)
            have tz_14 : z_14.toInt = v0.toInt := by rw [ez_14]; exact wide_t v0
            refine lv_iload hx hb dX10_years_67 (lv_at hl 1 rfl) ?_
            refine lv_i2l hx hb dX10_years_69 rfl ?_
            refine lv_topl (fun z_15 ez_15 => ?_)
            have tz_15 : z_15.toInt = x12_8.toInt := by rw [ez_15]; exact wide_t x12_8
            refine lv_ladd hx hb dX10_years_70 ?_
            refine lv_topl (fun z_16 ez_16 => ?_)
            have tz_16 : z_16.toInt = z_14.toInt + z_15.toInt := add_t64 ez_16 (show -9223372036854775808 ≤ z_14.toInt + z_15.toInt by omega) (show z_14.toInt + z_15.toInt < 9223372036854775808 by omega)
            refine t_calli (runV (As := [.long z_16]) (rest := []) ⟨hx, hb, hml, hown, hts⟩ (t_X10_draws l D cy base τ G_12 a h_a z_16) sV_X10_495 hK (t_recv cf_11 hK hT h_a) ⟨Nat.le_trans hZ hS.1, hT⟩ ⟨Nat.le_of_ble_eq_true rfl, Nat.le_of_ble_eq_true rfl⟩ rfl hl.1 rfl (Nat.le_of_ble_eq_true rfl) dX10_years_71 ⟨Nat.le_of_ble_eq_true rfl, Nat.le_of_ble_eq_true rfl⟩) hS (fun r_17 G_17 H locs hF_17 hr_17 hT hS => ?_)
            have hF := hF.tr hF_17 rfl
            refine lv_pop hx hb dX10_years_74 rfl ?_
            refine lv_aload_n hx hb dX10_years_75 rfl (lv_at hl 2 rfl) ?_
            refine lv_iload_n hx hb dX10_years_76 rfl (lv_at hl 5 rfl) ?_
            refine lv_iload hx hb dX10_years_77 (lv_at hl 6 rfl) ?_
            refine lv_aload_n hx hb dX10_years_79 rfl (lv_at hl 2 rfl) ?_
            refine t_getr cf_11 hx hb hts hown hK hT h_a (k := 41) (P := fun q => τ q = 91) rfl (fun _ h9 => h9) fl_X10_108 (fun _ h9 => h9) dX10_years_80 (fun q_18 eq_18 hq_18 => ?_)
            have eq_18 := (hF.r h_a (by decide) rfl _).symm.trans eq_18
            refine lv_iload_n hx hb dX10_years_83 rfl (lv_at hl 5 rfl) ?_
            refine t_iald (n := 6) (i := v2) rfl (by decide) hx hb hK hT hq_18 (hT.len hq_18 (by decide)) ⟨by omega, by omega⟩ dX10_years_84 (fun z_19 ez_19 rz_19 => ?_)
            refine pu_calli (runV (As := [.int v2, .int v3, .int z_19]) (rest := []) ⟨hx, hb, hml, hown, hts⟩ (t_X10_wantsOf l D cy base τ G_17 a h_a v2 ⟨by omega, by omega⟩ v3 ⟨by omega, by omega⟩ z_19) sV_X10_353 hK (t_recv cf_11 hK hT h_a) ⟨Nat.le_trans hZ hS.1, hT⟩ ⟨Nat.le_of_ble_eq_true rfl, Nat.le_of_ble_eq_true rfl⟩ rfl hl.1 rfl (Nat.le_of_ble_eq_true rfl) dX10_years_85 ⟨Nat.le_of_ble_eq_true rfl, Nat.le_of_ble_eq_true rfl⟩) (fun r_20 hr_20 => ?_)
            refine lv_istore (lv' := [(9, .int r_20), (7, .int x12_7), (8, .int x12_8), (0, .ref a), (1, .int v0), (2, .int v1), (3, .int v2), (4, .int v3), (5, .int v4), (6, .int v5)]) hx hb dX10_years_88 hl (by decide) rfl (fun ls hl => ?_)
            refine lv_iload hx hb dX10_years_90 (lv_at hl 0 rfl) ?_
            refine lv_iload hx hb dX10_years_92 (lv_at hl 8 rfl) ?_
            refine pu_calli (runS (As := [.int r_20, .int v4]) (rest := []) ⟨hx, hb, hml, hown, hts⟩ (t_X10_above l D cy base τ G_17 r_20 v4) sS_X10_504 hK ⟨Nat.le_trans hZ hS.1, hT⟩ ⟨Nat.le_of_ble_eq_true rfl, Nat.le_of_ble_eq_true rfl⟩ rfl hl.1 rfl (Nat.le_of_ble_eq_true rfl) dX10_years_94 ⟨Nat.le_of_ble_eq_true rfl, Nat.le_of_ble_eq_true rfl⟩) (fun r_21 hr_21 => ?_)
            refine lv_istore (lv' := [(10, .int r_21), (9, .int r_20), (7, .int x12_7), (8, .int x12_8), (0, .ref a), (1, .int v0), (2, .int v1), (3, .int v2), (4, .int v3), (5, .int v4), (6, .int v5)]) hx hb dX10_years_97 hl (by decide) rfl (fun ls hl => ?_)
            refine lv_iload hx hb dX10_years_99 (lv_at hl 10 rfl) ?_
            refine lv_iconst (v := 2) hx hb dX10_years_101 (by decide) ?_
            refine lv_icmp_ne (tgt := 124) hx hb dX10_years_102 (by decide) (fun c_22 => ?_) (fun c_22 => ?_)
            · skip
              have tc_22 : ¬ v5.toInt = 2 := fun h => c_22 ((fa_eq _ _).mpr h)
              refine lv_iload hx hb dX10_years_124 (lv_at hl 2 rfl) ?_
              refine lv_iload hx hb dX10_years_126 (lv_at hl 10 rfl) ?_
              refine lv_if_ne (tgt := 148) hx hb dX10_years_128 (by decide) (fun c_23 => ?_) (fun c_23 => ?_)
              · skip
                have tc_23 : ¬ v5.toInt = 0 := fun h => c_23 ((fa_eq _ _).mpr h)
                refine lv_iload hx hb dX10_years_148 (lv_at hl 10 rfl) ?_
                refine lv_iconst (v := 1) hx hb dX10_years_150 (by decide) ?_
                refine lv_icmp_ne (tgt := 159) hx hb dX10_years_151 (by decide) (fun c_24 => ?_) (fun c_24 => ?_)
                · skip
                  have tc_24 : ¬ v5.toInt = 1 := fun h => c_24 ((fa_eq _ _).mpr h)
                  refine lv_iload hx hb dX10_years_159 (lv_at hl 9 rfl) ?_
                  refine lv_iload hx hb dX10_years_161 (lv_at hl 1 rfl) ?_
                  refine pu_calli (runS (As := [.int v4, .int r_20]) (rest := [.int x12_7]) ⟨hx, hb, hml, hown, hts⟩ (t_X10_above l D cy base τ G_17 v4 r_20) sS_X10_504 hK ⟨Nat.le_trans hZ hS.1, hT⟩ ⟨Nat.le_of_ble_eq_true rfl, Nat.le_of_ble_eq_true rfl⟩ rfl hl.1 rfl (Nat.le_of_ble_eq_true rfl) dX10_years_163 ⟨Nat.le_of_ble_eq_true rfl, Nat.le_of_ble_eq_true rfl⟩) (fun r_25 hr_25 => ?_)
                  refine lv_iadd hx hb dX10_years_166 ?_
                  refine lv_topi (fun z_26 ez_26 => ?_)
                  refine lv_istore (lv' := [(7, .int z_26), (10, .int r_21), (9, .int r_20), (8, .int x12_8), (0, .ref a), (1, .int v0), (2, .int v1), (3, .int v2), (4, .int v3), (5, .int v4), (6, .int v5)]) hx hb dX10_years_167 hl (by decide) rfl (fun ls hl => ?_)
                  obtain ⟨z_27, ez_27⟩ : ∃ y : Int32, y = x12_8 + 1 := ⟨_, rfl⟩
                  have tz_27 : z_27.toInt = x12_8.toInt + 1 := add_t ez_27 (show -2147483648 ≤ x12_8.toInt + 1 by omega) (show x12_8.toInt + 1 < 2147483648 by omega)
                  refine lv_iinc (v := z_27) (lv' := [(8, .int z_27), (7, .int z_26), (10, .int r_21), (9, .int r_20), (0, .ref a), (1, .int v0), (2, .int v1), (3, .int v2), (4, .int v3), (5, .int v4), (6, .int v5)]) hx hb dX10_years_169 hl (k := 3) rfl (by rw [ez_27]; rfl) (by decide) rfl (fun ls hl => ?_)
                  refine lv_goto (tgt := 58) hx hb dX10_years_172 (by decide) ?_
                  exact ih12 (z_26, z_27, G_17) _ _ _ (by show (100 - z_27.toInt).toNat < (100 - x12_8.toInt).toNat; omega) ⟨(by show 0 ≤ z_27.toInt; omega), (by show z_27.toInt ≤ 100; omega), hF, hT, hS, lv_sub hl [1, 0, 4, 5, 6, 7, 8, 9, 10] rfl⟩
                · skip
                  have tc_24 : v5.toInt = 1 := (fa_eq _ _).mp c_24
                  refine lv_iload hx hb dX10_years_154 (lv_at hl 0 rfl) ?_
                  refine lv_goto (tgt := 166) hx hb dX10_years_156 (by decide) ?_
                  refine lv_iadd hx hb dX10_years_166 ?_
                  refine lv_topi (fun z_28 ez_28 => ?_)
                  refine lv_istore (lv' := [(7, .int z_28), (10, .int r_21), (9, .int r_20), (8, .int x12_8), (0, .ref a), (1, .int v0), (2, .int v1), (3, .int v2), (4, .int v3), (5, .int v4), (6, .int v5)]) hx hb dX10_years_167 hl (by decide) rfl (fun ls hl => ?_)
                  obtain ⟨z_29, ez_29⟩ : ∃ y : Int32, y = x12_8 + 1 := ⟨_, rfl⟩
                  have tz_29 : z_29.toInt = x12_8.toInt + 1 := add_t ez_29 (show -2147483648 ≤ x12_8.toInt + 1 by omega) (show x12_8.toInt + 1 < 2147483648 by omega)
                  refine lv_iinc (v := z_29) (lv' := [(8, .int z_29), (7, .int z_28), (10, .int r_21), (9, .int r_20), (0, .ref a), (1, .int v0), (2, .int v1), (3, .int v2), (4, .int v3), (5, .int v4), (6, .int v5)]) hx hb dX10_years_169 hl (k := 3) rfl (by rw [ez_29]; rfl) (by decide) rfl (fun ls hl => ?_)
                  refine lv_goto (tgt := 58) hx hb dX10_years_172 (by decide) ?_
                  exact ih12 (z_28, z_29, G_17) _ _ _ (by show (100 - z_29.toInt).toNat < (100 - x12_8.toInt).toNat; omega) ⟨(by show 0 ≤ z_29.toInt; omega), (by show z_29.toInt ≤ 100; omega), hF, hT, hS, lv_sub hl [1, 0, 4, 5, 6, 7, 8, 9, 10] rfl⟩
              · skip
                have tc_23 : v5.toInt = 0 := (fa_eq _ _).mp c_23
                refine lv_aload_n hx hb dX10_years_131 rfl (lv_at hl 4 rfl) ?_
                refine t_getr cf_11 hx hb hts hown hK hT h_a (k := 41) (P := fun q => τ q = 91) rfl (fun _ h9 => h9) fl_X10_108 (fun _ h9 => h9) dX10_years_132 (fun q_30 eq_30 hq_30 => ?_)
                have w_31 : q_18 = q_30 := Option.some.inj (eq_18.symm.trans ((hF.r h_a (by decide) rfl _).symm.trans eq_30))
                subst w_31
                refine lv_iload_n hx hb dX10_years_135 rfl (lv_at hl 7 rfl) ?_
                refine t_iald (n := 6) (i := v2) rfl (by decide) hx hb hK hT hq_18 (hT.len hq_18 (by decide)) ⟨by omega, by omega⟩ dX10_years_136 (fun z_32 ez_32 rz_32 => ?_)
                refine lv_if_eq (tgt := 144) hx hb dX10_years_137 (by decide) (fun c_33 => ?_) (fun c_33 => ?_)
                · skip
                  have tc_33 : z_32.toInt = 0 := (fa_eq _ _).mp c_33
                  refine lv_iconst (v := 0) hx hb dX10_years_144 (by decide) ?_
                  refine lv_goto (tgt := 166) hx hb dX10_years_145 (by decide) ?_
                  refine lv_iadd hx hb dX10_years_166 ?_
                  refine lv_topi (fun z_34 ez_34 => ?_)
                  refine lv_istore (lv' := [(7, .int z_34), (10, .int r_21), (9, .int r_20), (8, .int x12_8), (0, .ref a), (1, .int v0), (2, .int v1), (3, .int v2), (4, .int v3), (5, .int v4), (6, .int v5)]) hx hb dX10_years_167 hl (by decide) rfl (fun ls hl => ?_)
                  obtain ⟨z_35, ez_35⟩ : ∃ y : Int32, y = x12_8 + 1 := ⟨_, rfl⟩
                  have tz_35 : z_35.toInt = x12_8.toInt + 1 := add_t ez_35 (show -2147483648 ≤ x12_8.toInt + 1 by omega) (show x12_8.toInt + 1 < 2147483648 by omega)
                  refine lv_iinc (v := z_35) (lv' := [(8, .int z_35), (7, .int z_34), (10, .int r_21), (9, .int r_20), (0, .ref a), (1, .int v0), (2, .int v1), (3, .int v2), (4, .int v3), (5, .int v4), (6, .int v5)]) hx hb dX10_years_169 hl (k := 3) rfl (by rw [ez_35]; rfl) (by decide) rfl (fun ls hl => ?_)
                  refine lv_goto (tgt := 58) hx hb dX10_years_172 (by decide) ?_
                  exact ih12 (z_34, z_35, G_17) _ _ _ (by show (100 - z_35.toInt).toNat < (100 - x12_8.toInt).toNat; omega) ⟨(by show 0 ≤ z_35.toInt; omega), (by show z_35.toInt ≤ 100; omega), hF, hT, hS, lv_sub hl [1, 0, 4, 5, 6, 7, 8, 9, 10] rfl⟩
                · skip
                  have tc_33 : ¬ z_32.toInt = 0 := fun h => c_33 ((fa_eq _ _).mpr h)
                  refine lv_iconst (v := 1) hx hb dX10_years_140 (by decide) ?_
                  refine lv_goto (tgt := 166) hx hb dX10_years_141 (by decide) ?_
                  refine lv_iadd hx hb dX10_years_166 ?_
                  refine lv_topi (fun z_36 ez_36 => ?_)
                  refine lv_istore (lv' := [(7, .int z_36), (10, .int r_21), (9, .int r_20), (8, .int x12_8), (0, .ref a), (1, .int v0), (2, .int v1), (3, .int v2), (4, .int v3), (5, .int v4), (6, .int v5)]) hx hb dX10_years_167 hl (by decide) rfl (fun ls hl => ?_)
                  obtain ⟨z_37, ez_37⟩ : ∃ y : Int32, y = x12_8 + 1 := ⟨_, rfl⟩
                  have tz_37 : z_37.toInt = x12_8.toInt + 1 := add_t ez_37 (show -2147483648 ≤ x12_8.toInt + 1 by omega) (show x12_8.toInt + 1 < 2147483648 by omega)
                  refine lv_iinc (v := z_37) (lv' := [(8, .int z_37), (7, .int z_36), (10, .int r_21), (9, .int r_20), (0, .ref a), (1, .int v0), (2, .int v1), (3, .int v2), (4, .int v3), (5, .int v4), (6, .int v5)]) hx hb dX10_years_169 hl (k := 3) rfl (by rw [ez_37]; rfl) (by decide) rfl (fun ls hl => ?_)
                  refine lv_goto (tgt := 58) hx hb dX10_years_172 (by decide) ?_
                  exact ih12 (z_36, z_37, G_17) _ _ _ (by show (100 - z_37.toInt).toNat < (100 - x12_8.toInt).toNat; omega) ⟨(by show 0 ≤ z_37.toInt; omega), (by show z_37.toInt ≤ 100; omega), hF, hT, hS, lv_sub hl [1, 0, 4, 5, 6, 7, 8, 9, 10] rfl⟩
            · skip
              have tc_22 : v5.toInt = 2 := (fa_eq _ _).mp c_22
              refine lv_iload hx hb dX10_years_105 (lv_at hl 0 rfl) ?_
              refine lv_iload hx hb dX10_years_107 (lv_at hl 2 rfl) ?_
              refine lv_icmp_le (tgt := 117) hx hb dX10_years_109 (by decide) (fun c_38 => ?_) (fun c_38 => ?_)
              · skip
                have tc_38 : r_21.toInt ≤ x12_7.toInt := (fa_le _ _).mp c_38
                refine lv_iload hx hb dX10_years_117 (lv_at hl 2 rfl) ?_
                refine lv_istore (lv' := [(7, .int x12_7), (10, .int r_21), (9, .int r_20), (8, .int x12_8), (0, .ref a), (1, .int v0), (2, .int v1), (3, .int v2), (4, .int v3), (5, .int v4), (6, .int v5)]) hx hb dX10_years_119 hl (by decide) rfl (fun ls hl => ?_)
                refine lv_goto (tgt := 169) hx hb dX10_years_121 (by decide) ?_
                obtain ⟨z_39, ez_39⟩ : ∃ y : Int32, y = x12_8 + 1 := ⟨_, rfl⟩
                have tz_39 : z_39.toInt = x12_8.toInt + 1 := add_t ez_39 (show -2147483648 ≤ x12_8.toInt + 1 by omega) (show x12_8.toInt + 1 < 2147483648 by omega)
                refine lv_iinc (v := z_39) (lv' := [(8, .int z_39), (7, .int x12_7), (10, .int r_21), (9, .int r_20), (0, .ref a), (1, .int v0), (2, .int v1), (3, .int v2), (4, .int v3), (5, .int v4), (6, .int v5)]) hx hb dX10_years_169 hl (k := 3) rfl (by rw [ez_39]; rfl) (by decide) rfl (fun ls hl => ?_)
                refine lv_goto (tgt := 58) hx hb dX10_years_172 (by decide) ?_
                exact ih12 (x12_7, z_39, G_17) _ _ _ (by show (100 - z_39.toInt).toNat < (100 - x12_8.toInt).toNat; omega) ⟨(by show 0 ≤ z_39.toInt; omega), (by show z_39.toInt ≤ 100; omega), hF, hT, hS, lv_sub hl [1, 0, 4, 5, 6, 7, 8, 9, 10] rfl⟩
              · skip
                have tc_38 : ¬ r_21.toInt ≤ x12_7.toInt := fun h => c_38 ((fa_le _ _).mpr h)
                have mc_38 : r_21.toInt ≤ 2147483647 := max_t r_21
                refine lv_iload hx hb dX10_years_112 (lv_at hl 0 rfl) ?_
                refine lv_goto (tgt := 119) hx hb dX10_years_114 (by decide) ?_
                refine lv_istore (lv' := [(7, .int r_21), (10, .int r_21), (9, .int r_20), (8, .int x12_8), (0, .ref a), (1, .int v0), (2, .int v1), (3, .int v2), (4, .int v3), (5, .int v4), (6, .int v5)]) hx hb dX10_years_119 hl (by decide) rfl (fun ls hl => ?_)
                refine lv_goto (tgt := 169) hx hb dX10_years_121 (by decide) ?_
                obtain ⟨z_40, ez_40⟩ : ∃ y : Int32, y = x12_8 + 1 := ⟨_, rfl⟩
                have tz_40 : z_40.toInt = x12_8.toInt + 1 := add_t ez_40 (show -2147483648 ≤ x12_8.toInt + 1 by omega) (show x12_8.toInt + 1 < 2147483648 by omega)
                refine lv_iinc (v := z_40) (lv' := [(8, .int z_40), (7, .int r_21), (10, .int r_21), (9, .int r_20), (0, .ref a), (1, .int v0), (2, .int v1), (3, .int v2), (4, .int v3), (5, .int v4), (6, .int v5)]) hx hb dX10_years_169 hl (k := 3) rfl (by rw [ez_40]; rfl) (by decide) rfl (fun ls hl => ?_)
                refine lv_goto (tgt := 58) hx hb dX10_years_172 (by decide) ?_
                exact ih12 (r_21, z_40, G_17) _ _ _ (by show (100 - z_40.toInt).toNat < (100 - x12_8.toInt).toNat; omega) ⟨(by show 0 ≤ z_40.toInt; omega), (by show z_40.toInt ≤ 100; omega), hF, hT, hS, lv_sub hl [1, 0, 4, 5, 6, 7, 8, 9, 10] rfl⟩
        · skip
          have er_10 := hr_10_1
          subst er_10
          refine W.eq (g2 := F0 m 46 ls [.int 0]) rfl ?_
          refine lv_if_ne (tgt := 52) hx hb dX10_years_46 (by decide) (fun c_41 => absurd rfl c_41) (fun _ => ?_)
          refine lv_bipush (v := (-2)) hx hb dX10_years_49 (by decide) ?_
          exact ret_i hx hb hr hlocks ⟨⟨hS.1, hS.2.1⟩, G_1, hF, ⟨_, rfl, trivial⟩, hT⟩ hS.2.2 (Nat.le_of_ble_eq_true rfl) (Nat.le_of_ble_eq_true rfl) dX10_years_51
      · skip
        have er_7 := hr_7_1
        subst er_7
        refine W.eq (g2 := F0 m 33 ls [.int 0]) rfl ?_
        refine lv_if_eq (tgt := 49) hx hb dX10_years_33 (by decide) (fun _ => ?_) (fun c_42 => absurd (by decide) c_42)
        refine lv_bipush (v := (-2)) hx hb dX10_years_49 (by decide) ?_
        exact ret_i hx hb hr hlocks ⟨⟨hS.1, hS.2.1⟩, G_1, hF, ⟨_, rfl, trivial⟩, hT⟩ hS.2.2 (Nat.le_of_ble_eq_true rfl) (Nat.le_of_ble_eq_true rfl) dX10_years_51
    · skip
      have er_5 := hr_5_1
      subst er_5
      refine W.eq (g2 := F0 m 21 ls [.int 0]) rfl ?_
      refine lv_if_eq (tgt := 49) hx hb dX10_years_21 (by decide) (fun _ => ?_) (fun c_43 => absurd (by decide) c_43)
      refine lv_bipush (v := (-2)) hx hb dX10_years_49 (by decide) ?_
      exact ret_i hx hb hr hlocks ⟨⟨hS.1, hS.2.1⟩, G_1, hF, ⟨_, rfl, trivial⟩, hT⟩ hS.2.2 (Nat.le_of_ble_eq_true rfl) (Nat.le_of_ble_eq_true rfl) dX10_years_51
  · skip
    have er_2 := hr_2_1
    subst er_2
    refine W.eq (g2 := F0 m 9 ls [.int 0]) rfl ?_
    refine lv_if_eq (tgt := 49) hx hb dX10_years_9 (by decide) (fun _ => ?_) (fun c_44 => absurd (by decide) c_44)
    refine lv_bipush (v := (-2)) hx hb dX10_years_49 (by decide) ?_
    exact ret_i hx hb hr hlocks ⟨⟨hS.1, hS.2.1⟩, G_1, hF, ⟨_, rfl, trivial⟩, hT⟩ hS.2.2 (Nat.le_of_ble_eq_true rfl) (Nat.le_of_ble_eq_true rfl) dX10_years_51
set_option maxHeartbeats 4000000 in
set_option maxRecDepth 100000 in
theorem t_X10_count (l : Launch) (D : va_G) (cy : Nat → ClassId) (base : Nat) (τ : Nat → Nat) (G : Gh) (a : Nat) (h_a : τ a = 11) (v0 : Int32) : MM l yX10_count cX10_count 4 (some .int) 1 0 0 D cy [.ref a, .int v0] (PT D cy base τ G) (QT D cy base τ G [11] (fun v g => ∃ r : Int32, v = some (.int r) ∧ (True))) (RA base) := by
  refine MM.of (by decide) (Nat.le_of_ble_eq_true rfl) ?_
  intro p e s m below meth c C hPT ls hl
  obtain ⟨hx, hb, hr, hml, hown, hts, hlocks, hK, hnm⟩ := C
  obtain ⟨hZ, hT⟩ := hPT
  have hS : va_S (RA base) s.heap s.heap [] := va_S.rf
  have hF : Fr τ [11] G G := Fr.rf
  have hl : lv_has ls 4 [(0, .ref a), (1, .int v0)] := hl
  refine lv_aload_n hx hb dX10_count_0 rfl (lv_at hl 0 rfl) ?_
  refine lv_iconst (v := 0) hx hb dX10_count_1 (by decide) ?_
  refine t_puti (x := 0) cf_11 hx hb hts hown hK hT hS h_a (k := 0) rfl trivial fl_X10_111 (fun _ h9 => h9) rfl rfl rfl dX10_count_2 (fun H locs G_1 eG_1 hT hS => ?_)
  have hF := hF.wI eG_1 h_a rfl
  refine lv_iconst (v := 0) hx hb dX10_count_5 (by decide) ?_
  refine lv_istore_n (lv' := [(2, .int 0), (0, .ref a), (1, .int v0)]) hx hb dX10_count_6 rfl hl (by decide) rfl (fun ls hl => ?_)
  refine lv_iload_n hx hb dX10_count_7 rfl (lv_at hl 2 rfl) ?_
  by_cases sw_2 : v0.toInt < 0 ∨ 7 < v0.toInt
  · skip
    refine lv_tableOut (tgt := 134) hx hb dX10_count_8 sw_2 (by decide) ?_
    refine lv_iconst (v := (-1)) hx hb dX10_count_134 (by decide) ?_
    exact ret_i hx hb hr hlocks ⟨⟨hS.1, hS.2.1⟩, G_1, hF, ⟨_, rfl, trivial⟩, hT⟩ hS.2.2 (Nat.le_of_ble_eq_true rfl) (Nat.le_of_ble_eq_true rfl) dX10_count_135
  · skip
    rcases (show v0.toInt = 0 ∨ v0.toInt = 1 ∨ v0.toInt = 2 ∨ v0.toInt = 3 ∨ v0.toInt = 4 ∨ v0.toInt = 5 ∨ v0.toInt = 6 ∨ v0.toInt = 7 by omega) with sw_2_0 | sw_2_1 | sw_2_2 | sw_2_3 | sw_2_4 | sw_2_5 | sw_2_6 | sw_2_7
    · skip
      refine lv_tableIn (tgt := 56) hx hb dX10_count_8 (by omega) (by omega) (by rw [sw_2_0]; rfl) (by decide) ?_
      refine lv_aload_n hx hb dX10_count_56 rfl (lv_at hl 1 rfl) ?_
      refine t_getr cf_11 hx hb hts hown hK hT h_a (k := 20) (P := fun q => τ q = 70) rfl (fun _ h9 => h9) fl_X10_43 (fun _ h9 => h9) dX10_count_57 (fun q_3 eq_3 hq_3 => ?_)
      have eq_3 := (hF.r h_a (by decide) rfl _).symm.trans eq_3
      refine lv_iconst (v := 0) hx hb dX10_count_60 (by decide) ?_
      refine t_iald (n := 5) (i := 0) rfl (by decide) hx hb hK hT hq_3 (hT.len hq_3 (by decide)) ⟨by decide, by decide⟩ dX10_count_61 (fun z_4 ez_4 rz_4 => ?_)
      have ez_4 : z_4 = G_1.1 q_3 0 := ez_4
      have rz_4 : 0 ≤ z_4.toInt ∧ z_4.toInt ≤ 6 := rz_4
      have ez_4 : z_4 = G.1 q_3 0 := ez_4.trans (hF.i hq_3 (by decide) rfl _)
      exact ret_i hx hb hr hlocks ⟨⟨hS.1, hS.2.1⟩, G_1, hF, ⟨_, rfl, trivial⟩, hT⟩ hS.2.2 (Nat.le_of_ble_eq_true rfl) (Nat.le_of_ble_eq_true rfl) dX10_count_62
    · skip
      refine lv_tableIn (tgt := 63) hx hb dX10_count_8 (by omega) (by omega) (by rw [sw_2_1]; rfl) (by decide) ?_
      refine lv_aload_n hx hb dX10_count_63 rfl (lv_at hl 1 rfl) ?_
      refine t_getr cf_11 hx hb hts hown hK hT h_a (k := 18) (P := fun q => τ q = 68) rfl (fun _ h9 => h9) fl_X10_37 (fun _ h9 => h9) dX10_count_64 (fun q_5 eq_5 hq_5 => ?_)
      have eq_5 := (hF.r h_a (by decide) rfl _).symm.trans eq_5
      refine lv_iconst (v := 0) hx hb dX10_count_67 (by decide) ?_
      refine t_iald (n := 5) (i := 0) rfl (by decide) hx hb hK hT hq_5 (hT.len hq_5 (by decide)) ⟨by decide, by decide⟩ dX10_count_68 (fun z_6 ez_6 rz_6 => ?_)
      have ez_6 : z_6 = G_1.1 q_5 0 := ez_6
      have rz_6 : 0 ≤ z_6.toInt ∧ z_6.toInt ≤ 3 := rz_6
      have ez_6 : z_6 = G.1 q_5 0 := ez_6.trans (hF.i hq_5 (by decide) rfl _)
      exact ret_i hx hb hr hlocks ⟨⟨hS.1, hS.2.1⟩, G_1, hF, ⟨_, rfl, trivial⟩, hT⟩ hS.2.2 (Nat.le_of_ble_eq_true rfl) (Nat.le_of_ble_eq_true rfl) dX10_count_69
    · skip
      refine lv_tableIn (tgt := 70) hx hb dX10_count_8 (by omega) (by omega) (by rw [sw_2_2]; rfl) (by decide) ?_
      refine lv_aload_n hx hb dX10_count_70 rfl (lv_at hl 1 rfl) ?_
      obtain ⟨q_7, eq_7, hq_7⟩ := (show ∃ q, G_1.2.2.1 a 17 = some q ∧ τ q = 67 from hT.rgr h_a (by decide) 17)
      have eq_7 := (hF.r h_a (by decide) rfl _).symm.trans eq_7
      obtain ⟨z_8, ez_8⟩ : ∃ y : Int32, y = G_1.1 q_7 0 := ⟨_, rfl⟩
      have qz_8 : (0 % 4 = 0 → 0 ≤ z_8.toInt ∧ z_8.toInt ≤ 60) := by rw [ez_8]; exact hT.rgi hq_7 (by decide) 0
      have rz_8 : 0 ≤ z_8.toInt ∧ z_8.toInt ≤ 60 := by omega
      have ez_8 : z_8 = G.1 q_7 0 := ez_8.trans (hF.i hq_7 (by decide) rfl _)
      refine pu_calli (runV (As := []) (rest := []) ⟨hx, hb, hml, hown, hts⟩ (t_X10_lastDay l D cy base τ G_1 a h_a q_7 hq_7 ((hF.r h_a (by decide) rfl _).trans eq_7) z_8 (ez_8.trans (hF.i hq_7 (by decide) rfl _).symm) ⟨by omega, by omega⟩) sV_X10_278 hK (t_recv cf_11 hK hT h_a) ⟨Nat.le_trans hZ hS.1, hT⟩ ⟨Nat.le_of_ble_eq_true rfl, Nat.le_of_ble_eq_true rfl⟩ rfl hl.1 rfl (Nat.le_of_ble_eq_true rfl) dX10_count_71 ⟨Nat.le_of_ble_eq_true rfl, Nat.le_of_ble_eq_true rfl⟩) (fun r_9 hr_9 => ?_)
      have er_9 := hr_9
      have er_9 := er_9.symm
      subst er_9
      refine W.eq (g2 := F0 m 74 ls [.int z_8]) rfl ?_
      exact ret_i hx hb hr hlocks ⟨⟨hS.1, hS.2.1⟩, G_1, hF, ⟨_, rfl, trivial⟩, hT⟩ hS.2.2 (Nat.le_of_ble_eq_true rfl) (Nat.le_of_ble_eq_true rfl) dX10_count_74
    · skip
      refine lv_tableIn (tgt := 75) hx hb dX10_count_8 (by omega) (by omega) (by rw [sw_2_3]; rfl) (by decide) ?_
      refine lv_aload_n hx hb dX10_count_75 rfl (lv_at hl 1 rfl) ?_
      refine t_getr cf_11 hx hb hts hown hK hT h_a (k := 16) (P := fun q => τ q = 66) rfl (fun _ h9 => h9) fl_X10_31 (fun _ h9 => h9) dX10_count_76 (fun q_10 eq_10 hq_10 => ?_)
      have eq_10 := (hF.r h_a (by decide) rfl _).symm.trans eq_10
      refine lv_iconst (v := 0) hx hb dX10_count_79 (by decide) ?_
      refine t_iald (n := 5) (i := 0) rfl (by decide) hx hb hK hT hq_10 (hT.len hq_10 (by decide)) ⟨by decide, by decide⟩ dX10_count_80 (fun z_11 ez_11 rz_11 => ?_)
      have ez_11 : z_11 = G_1.1 q_10 0 := ez_11
      have ez_11 : z_11 = G.1 q_10 0 := ez_11.trans (hF.i hq_10 (by decide) rfl _)
      exact ret_i hx hb hr hlocks ⟨⟨hS.1, hS.2.1⟩, G_1, hF, ⟨_, rfl, trivial⟩, hT⟩ hS.2.2 (Nat.le_of_ble_eq_true rfl) (Nat.le_of_ble_eq_true rfl) dX10_count_81
    · skip
      refine lv_tableIn (tgt := 82) hx hb dX10_count_8 (by omega) (by omega) (by rw [sw_2_4]; rfl) (by decide) ?_
      refine lv_aload_n hx hb dX10_count_82 rfl (lv_at hl 1 rfl) ?_
      refine t_getr cf_11 hx hb hts hown hK hT h_a (k := 22) (P := fun q => τ q = 72) rfl (fun _ h9 => h9) fl_X10_49 (fun _ h9 => h9) dX10_count_83 (fun q_12 eq_12 hq_12 => ?_)
      have eq_12 := (hF.r h_a (by decide) rfl _).symm.trans eq_12
      refine lv_iconst (v := 0) hx hb dX10_count_86 (by decide) ?_
      refine t_iald (n := 5) (i := 0) rfl (by decide) hx hb hK hT hq_12 (hT.len hq_12 (by decide)) ⟨by decide, by decide⟩ dX10_count_87 (fun z_13 ez_13 rz_13 => ?_)
      have ez_13 : z_13 = G_1.1 q_12 0 := ez_13
      have rz_13 : 0 ≤ z_13.toInt ∧ z_13.toInt ≤ 8 := rz_13
      have ez_13 : z_13 = G.1 q_12 0 := ez_13.trans (hF.i hq_12 (by decide) rfl _)
      exact ret_i hx hb hr hlocks ⟨⟨hS.1, hS.2.1⟩, G_1, hF, ⟨_, rfl, trivial⟩, hT⟩ hS.2.2 (Nat.le_of_ble_eq_true rfl) (Nat.le_of_ble_eq_true rfl) dX10_count_88
    · skip
      refine lv_tableIn (tgt := 89) hx hb dX10_count_8 (by omega) (by omega) (by rw [sw_2_5]; rfl) (by decide) ?_
      refine lv_aload_n hx hb dX10_count_89 rfl (lv_at hl 1 rfl) ?_
      refine t_geti cf_11 hx hb hts hown hK hT h_a (k := 6) rfl fl_X10_128 (fun _ h9 => h9) dX10_count_90 (fun z_14 ez_14 rz_14 => ?_)
      have ez_14 : z_14 = G_1.1 a 6 := ez_14
      have rz_14 : 0 ≤ z_14.toInt ∧ z_14.toInt ≤ 1600 := rz_14
      exact ret_i hx hb hr hlocks ⟨⟨hS.1, hS.2.1⟩, G_1, hF, ⟨_, rfl, trivial⟩, hT⟩ hS.2.2 (Nat.le_of_ble_eq_true rfl) (Nat.le_of_ble_eq_true rfl) dX10_count_93
    · skip
      refine lv_tableIn (tgt := 94) hx hb dX10_count_8 (by omega) (by omega) (by rw [sw_2_6]; rfl) (by decide) ?_
      refine lv_aload_n hx hb dX10_count_94 rfl (lv_at hl 1 rfl) ?_
      refine t_getr cf_11 hx hb hts hown hK hT h_a (k := 26) (P := fun q => τ q = 76) rfl (fun _ h9 => h9) fl_X10_62 (fun _ h9 => h9) dX10_count_95 (fun q_15 eq_15 hq_15 => ?_)
      have eq_15 := (hF.r h_a (by decide) rfl _).symm.trans eq_15
      refine lv_iconst (v := 0) hx hb dX10_count_98 (by decide) ?_
      refine t_iald (n := 5) (i := 0) rfl (by decide) hx hb hK hT hq_15 (hT.len hq_15 (by decide)) ⟨by decide, by decide⟩ dX10_count_99 (fun z_16 ez_16 rz_16 => ?_)
      have ez_16 : z_16 = G_1.1 q_15 0 := ez_16
      have ez_16 : z_16 = G.1 q_15 0 := ez_16.trans (hF.i hq_15 (by decide) rfl _)
      exact ret_i hx hb hr hlocks ⟨⟨hS.1, hS.2.1⟩, G_1, hF, ⟨_, rfl, trivial⟩, hT⟩ hS.2.2 (Nat.le_of_ble_eq_true rfl) (Nat.le_of_ble_eq_true rfl) dX10_count_100
    · skip
      refine lv_tableIn (tgt := 101) hx hb dX10_count_8 (by omega) (by omega) (by rw [sw_2_7]; rfl) (by decide) ?_
      refine lv_iconst (v := 0) hx hb dX10_count_101 (by decide) ?_
      refine lv_istore_n (lv' := [(3, .int 0), (2, .int 0), (0, .ref a), (1, .int v0)]) hx hb dX10_count_102 rfl hl (by decide) rfl (fun ls hl => ?_)
      refine W.loop (σ := Int32 × Int32 × Gh) (fun w17 H locs ls => 0 ≤ w17.2.1.toInt ∧ w17.2.1.toInt ≤ 4 ∧ Fr τ [11] G w17.2.2 ∧ TY D cy base τ w17.2.2 H ∧ va_S (RA base) s.heap H locs ∧ lv_has ls 4 [(2, .int w17.1), (3, .int w17.2.1), (0, .ref a), (1, .int v0)]) (fun w17 => (4 - w17.2.1.toInt).toNat) ?_ ((0 : Int32), (0 : Int32), G_1) _ _ _ ⟨(by show 0 ≤ (0 : Int32).toInt; decide), (by show (0 : Int32).toInt ≤ 4; decide), hF, hT, hS, lv_sub hl [1, 0, 2, 3] rfl⟩
      intro w17 H locs ls hI ih17
      obtain ⟨x17_2, x17_3, G_17⟩ := w17
      obtain ⟨i17_0, i17_1, hF, hT, hS, hl⟩ := hI
      have i17_0 : 0 ≤ x17_3.toInt := i17_0
      have i17_1 : x17_3.toInt ≤ 4 := i17_1
      have hF : Fr τ [11] G G_17 := hF
      have hT : TY D cy base τ G_17 H := hT
      have hS : va_S (RA base) s.heap H locs := hS
      have hl : lv_has ls 4 [(2, .int x17_2), (3, .int x17_3), (0, .ref a), (1, .int v0)] := hl
      refine lv_iload_n hx hb dX10_count_103 rfl (lv_at hl 1 rfl) ?_
      refine lv_iconst (v := 4) hx hb dX10_count_104 (by decide) ?_
      refine lv_icmp_ge (tgt := 132) hx hb dX10_count_105 (by decide) (fun c_18 => ?_) (fun c_18 => ?_)
      · skip
        have tc_18 : 4 ≤ x17_3.toInt := (fa_le _ _).mp c_18
        refine lv_iload_n hx hb dX10_count_132 rfl (lv_at hl 0 rfl) ?_
        exact ret_i hx hb hr hlocks ⟨⟨hS.1, hS.2.1⟩, G_17, hF, ⟨_, rfl, trivial⟩, hT⟩ hS.2.2 (Nat.le_of_ble_eq_true rfl) (Nat.le_of_ble_eq_true rfl) dX10_count_133
      · skip
        have tc_18 : ¬ 4 ≤ x17_3.toInt := fun h => c_18 ((fa_le _ _).mpr h)
        refine lv_iload_n hx hb dX10_count_108 rfl (lv_at hl 0 rfl) ?_
        refine lv_aload_n hx hb dX10_count_109 rfl (lv_at hl 2 rfl) ?_
        refine t_getr cf_11 hx hb hts hown hK hT h_a (k := 1) (P := fun q => τ q = 51) rfl (fun _ h9 => h9) fl_X10_7 (fun _ h9 => h9) dX10_count_110 (fun q_19 eq_19 hq_19 => ?_)
        have eq_19 := (hF.r h_a (by decide) rfl _).symm.trans eq_19
        refine lv_iload_n hx hb dX10_count_113 rfl (lv_at hl 1 rfl) ?_
        refine t_iald (n := 4) (i := x17_3) rfl (by decide) hx hb hK hT hq_19 (hT.len hq_19 (by decide)) ⟨by omega, by omega⟩ dX10_count_114 (fun z_20 ez_20 rz_20 => ?_)
        have rz_20 : -1 ≤ z_20.toInt ∧ z_20.toInt ≤ 3 := rz_20
        have ez_20 : z_20 = G.1 q_19 x17_3.toNatClampNeg := ez_20.trans (hF.i hq_19 (by decide) rfl _)
        refine lv_iconst (v := (-1)) hx hb dX10_count_115 (by decide) ?_
        refine lv_icmp_ne (tgt := 123) hx hb dX10_count_116 (by decide) (fun c_21 => ?_) (fun c_21 => ?_)
        · skip
          have tc_21 : ¬ z_20.toInt = -1 := fun h => c_21 ((fa_eq _ _).mpr h)
          refine lv_iconst (v := 1) hx hb dX10_count_123 (by decide) ?_
          refine lv_iadd hx hb dX10_count_124 ?_
          refine lv_topi (fun z_22 ez_22 => ?_)
          refine lv_istore_n (lv' := [(2, .int z_22), (3, .int x17_3), (0, .ref a), (1, .int v0)]) hx hb dX10_count_125 rfl hl (by decide) rfl (fun ls hl => ?_)
          obtain ⟨z_23, ez_23⟩ : ∃ y : Int32, y = x17_3 + 1 := ⟨_, rfl⟩
          have tz_23 : z_23.toInt = x17_3.toInt + 1 := add_t ez_23 (show -2147483648 ≤ x17_3.toInt + 1 by omega) (show x17_3.toInt + 1 < 2147483648 by omega)
          refine lv_iinc (v := z_23) (lv' := [(3, .int z_23), (2, .int z_22), (0, .ref a), (1, .int v0)]) hx hb dX10_count_126 hl (k := 1) rfl (by rw [ez_23]; rfl) (by decide) rfl (fun ls hl => ?_)
          refine lv_goto (tgt := 103) hx hb dX10_count_129 (by decide) ?_
          exact ih17 (z_22, z_23, G_17) _ _ _ (by show (4 - z_23.toInt).toNat < (4 - x17_3.toInt).toNat; omega) ⟨(by show 0 ≤ z_23.toInt; omega), (by show z_23.toInt ≤ 4; omega), hF, hT, hS, lv_sub hl [1, 0, 2, 3] rfl⟩
        · skip
          have tc_21 : z_20.toInt = -1 := (fa_eq _ _).mp c_21
          refine lv_iconst (v := 0) hx hb dX10_count_119 (by decide) ?_
          refine lv_goto (tgt := 124) hx hb dX10_count_120 (by decide) ?_
          refine lv_iadd hx hb dX10_count_124 ?_
          refine lv_topi (fun z_24 ez_24 => ?_)
          refine lv_istore_n (lv' := [(2, .int z_24), (3, .int x17_3), (0, .ref a), (1, .int v0)]) hx hb dX10_count_125 rfl hl (by decide) rfl (fun ls hl => ?_)
          obtain ⟨z_25, ez_25⟩ : ∃ y : Int32, y = x17_3 + 1 := ⟨_, rfl⟩
          have tz_25 : z_25.toInt = x17_3.toInt + 1 := add_t ez_25 (show -2147483648 ≤ x17_3.toInt + 1 by omega) (show x17_3.toInt + 1 < 2147483648 by omega)
          refine lv_iinc (v := z_25) (lv' := [(3, .int z_25), (2, .int z_24), (0, .ref a), (1, .int v0)]) hx hb dX10_count_126 hl (k := 1) rfl (by rw [ez_25]; rfl) (by decide) rfl (fun ls hl => ?_)
          refine lv_goto (tgt := 103) hx hb dX10_count_129 (by decide) ?_
          exact ih17 (z_24, z_25, G_17) _ _ _ (by show (4 - z_25.toInt).toNat < (4 - x17_3.toInt).toNat; omega) ⟨(by show 0 ≤ z_25.toInt; omega), (by show z_25.toInt ≤ 4; omega), hF, hT, hS, lv_sub hl [1, 0, 2, 3] rfl⟩
set_option maxHeartbeats 4000000 in
set_option maxRecDepth 100000 in
theorem t_X10_row (l : Launch) (D : va_G) (cy : Nat → ClassId) (base : Nat) (τ : Nat → Nat) (G : Gh) (a : Nat) (h_a : τ a = 11) (v0 : Int32) (v1 : Int32) (v2 : Int32) : MM l yX10_row cX10_row 5 (some .int) 2 0 0 D cy [.ref a, .int v0, .int v1, .int v2] (PT D cy base τ G) (QT D cy base τ G [11, 51, 52, 53] (fun v g => ∃ r : Int32, v = some (.int r) ∧ (True))) (RA base) := by
  refine MM.of (by decide) (Nat.le_of_ble_eq_true rfl) ?_
  intro p e s m below meth c C hPT ls hl
  obtain ⟨hx, hb, hr, hml, hown, hts, hlocks, hK, hnm⟩ := C
  obtain ⟨hZ, hT⟩ := hPT
  have hS : va_S (RA base) s.heap s.heap [] := va_S.rf
  have hF : Fr τ [11, 51, 52, 53] G G := Fr.rf
  have hl : lv_has ls 5 [(0, .ref a), (1, .int v0), (2, .int v1), (3, .int v2)] := hl
  refine lv_aload_n hx hb dX10_row_0 rfl (lv_at hl 0 rfl) ?_
  refine lv_iconst (v := 0) hx hb dX10_row_1 (by decide) ?_
  refine t_puti (x := 0) cf_11 hx hb hts hown hK hT hS h_a (k := 0) rfl trivial fl_X10_111 (fun _ h9 => h9) rfl rfl rfl dX10_row_2 (fun H locs G_1 eG_1 hT hS => ?_)
  have hF := hF.wI eG_1 h_a rfl
  refine lv_iload_n hx hb dX10_row_5 rfl (lv_at hl 1 rfl) ?_
  refine pu_calli (runS (As := [.int v0]) (rest := []) ⟨hx, hb, hml, hown, hts⟩ (t_X10_isSlot l D cy base τ G_1 v0) sS_X10_120 hK ⟨Nat.le_trans hZ hS.1, hT⟩ ⟨Nat.le_of_ble_eq_true rfl, Nat.le_of_ble_eq_true rfl⟩ rfl hl.1 rfl (Nat.le_of_ble_eq_true rfl) dX10_row_6 ⟨Nat.le_of_ble_eq_true rfl, Nat.le_of_ble_eq_true rfl⟩) (fun r_2 hr_2 => ?_)
  have hr_2_c := hr_2
  rcases hr_2_c with hr_2_0 | hr_2_1
  · skip
    obtain ⟨er_2, hr_2_0_f0, hr_2_0_f1⟩ := hr_2_0
    have hr_2_0_f0 : 0 ≤ v0.toInt := hr_2_0_f0
    have hr_2_0_f1 : v0.toInt ≤ 3 := hr_2_0_f1
    subst er_2
    refine W.eq (g2 := F0 m 9 ls [.int 1]) rfl ?_
    refine lv_if_eq (tgt := 30) hx hb dX10_row_9 (by decide) (fun c_3 => absurd c_3 (by decide)) (fun _ => ?_)
    refine lv_iload_n hx hb dX10_row_12 rfl (lv_at hl 2 rfl) ?_
    refine lv_i2l hx hb dX10_row_13 rfl ?_
    refine lv_topl (fun z_4 ez_4 => ?_)
    have tz_4 : z_4.toInt = v1.toInt := by rw [ez_4]; exact wide_t v1
    have az_4 := min_t v1
    have bz_4 := max_t v1
    refine lv_lconst (v := 0) hx hb dX10_row_14 (by decide) ?_
    refine lv_ldc2 (v := 3) hx hb hown (hts _ kl_X10_114) dX10_row_15 ?_
    refine pu_calli (runS (As := [.long z_4, .long 0, .long 3]) (rest := []) ⟨hx, hb, hml, hown, hts⟩ (t_X10_in l D cy base τ G_1 z_4 0 3) sS_X10_116 hK ⟨Nat.le_trans hZ hS.1, hT⟩ ⟨Nat.le_of_ble_eq_true rfl, Nat.le_of_ble_eq_true rfl⟩ rfl hl.1 rfl (Nat.le_of_ble_eq_true rfl) dX10_row_18 ⟨Nat.le_of_ble_eq_true rfl, Nat.le_of_ble_eq_true rfl⟩) (fun r_5 hr_5 => ?_)
    have hr_5_c := hr_5
    rcases hr_5_c with hr_5_0 | hr_5_1
    · skip
      obtain ⟨er_5, hr_5_0_f0, hr_5_0_f1⟩ := hr_5_0
      have hr_5_0_f0 : 0 ≤ z_4.toInt := hr_5_0_f0
      have hr_5_0_f1 : z_4.toInt ≤ 3 := hr_5_0_f1
      subst er_5
      refine W.eq (g2 := F0 m 21 ls [.int 1]) rfl ?_
      refine lv_if_eq (tgt := 30) hx hb dX10_row_21 (by decide) (fun c_6 => absurd c_6 (by decide)) (fun _ => ?_)
      refine lv_iload_n hx hb dX10_row_24 rfl (lv_at hl 3 rfl) ?_
      refine lv_bipush (v := 60) hx hb dX10_row_25 (by decide) ?_
      refine lv_icmp_le (tgt := 33) hx hb dX10_row_27 (by decide) (fun c_7 => ?_) (fun c_7 => ?_)
      · skip
        have tc_7 : v2.toInt ≤ 60 := (fa_le _ _).mp c_7
        refine lv_iload_n hx hb dX10_row_33 rfl (lv_at hl 3 rfl) ?_
        refine lv_if_ge (tgt := 40) hx hb dX10_row_34 (by decide) (fun c_8 => ?_) (fun c_8 => ?_)
        · skip
          have tc_8 : 0 ≤ v2.toInt := (fa_le _ _).mp c_8
          refine lv_aload_n hx hb dX10_row_40 rfl (lv_at hl 0 rfl) ?_
          refine t_getr cf_11 hx hb hts hown hK hT h_a (k := 1) (P := fun q => τ q = 51) rfl (fun _ h9 => h9) fl_X10_7 (fun _ h9 => h9) dX10_row_41 (fun q_9 eq_9 hq_9 => ?_)
          have eq_9 := (hF.r h_a (by decide) rfl _).symm.trans eq_9
          refine lv_iload_n hx hb dX10_row_44 rfl (lv_at hl 1 rfl) ?_
          refine lv_iload_n hx hb dX10_row_45 rfl (lv_at hl 2 rfl) ?_
          refine t_iast (n := 4) (i := v0) (x := v1) rfl (by decide) hx hb hK hT hS hq_9 (hT.len hq_9 (by decide)) ⟨by omega, by omega⟩ (show -1 ≤ v1.toInt ∧ v1.toInt ≤ 3 from ⟨by omega, by omega⟩) dX10_row_46 (fun H locs G_10 eG_10 hT hS => ?_)
          have hF := hF.wI eG_10 hq_9 rfl
          refine lv_aload_n hx hb dX10_row_47 rfl (lv_at hl 0 rfl) ?_
          refine t_getr cf_11 hx hb hts hown hK hT h_a (k := 2) (P := fun q => τ q = 52) rfl (fun _ h9 => h9) fl_X10_13 (fun _ h9 => h9) dX10_row_48 (fun q_11 eq_11 hq_11 => ?_)
          have eq_11 := (hF.r h_a (by decide) rfl _).symm.trans eq_11
          refine lv_iload_n hx hb dX10_row_51 rfl (lv_at hl 1 rfl) ?_
          refine lv_iload_n hx hb dX10_row_52 rfl (lv_at hl 3 rfl) ?_
          refine t_iast (n := 4) (i := v0) (x := v2) rfl (by decide) hx hb hK hT hS hq_11 (hT.len hq_11 (by decide)) ⟨by omega, by omega⟩ (show 0 ≤ v2.toInt ∧ v2.toInt ≤ 60 from ⟨by omega, by omega⟩) dX10_row_53 (fun H locs G_12 eG_12 hT hS => ?_)
          have hF := hF.wI eG_12 hq_11 rfl
          refine lv_iconst (v := 0) hx hb dX10_row_54 (by decide) ?_
          refine lv_istore (lv' := [(4, .int 0), (0, .ref a), (1, .int v0), (2, .int v1), (3, .int v2)]) hx hb dX10_row_55 hl (by decide) rfl (fun ls hl => ?_)
          refine W.loop (σ := Int32 × Gh) (fun w13 H locs ls => 0 ≤ w13.1.toInt ∧ w13.1.toInt ≤ 60 ∧ Fr τ [11, 51, 52, 53] G w13.2 ∧ TY D cy base τ w13.2 H ∧ va_S (RA base) s.heap H locs ∧ lv_has ls 5 [(4, .int w13.1), (0, .ref a), (1, .int v0), (2, .int v1), (3, .int v2)]) (fun w13 => (60 - w13.1.toInt).toNat) ?_ ((0 : Int32), G_12) _ _ _ ⟨(by show 0 ≤ (0 : Int32).toInt; decide), (by show (0 : Int32).toInt ≤ 60; decide), hF, hT, hS, lv_sub hl [0, 1, 2, 3, 4] rfl⟩
          intro w13 H locs ls hI ih13
          obtain ⟨x13_4, G_13⟩ := w13
          obtain ⟨i13_0, i13_1, hF, hT, hS, hl⟩ := hI
          have i13_0 : 0 ≤ x13_4.toInt := i13_0
          have i13_1 : x13_4.toInt ≤ 60 := i13_1
          have hF : Fr τ [11, 51, 52, 53] G G_13 := hF
          have hT : TY D cy base τ G_13 H := hT
          have hS : va_S (RA base) s.heap H locs := hS
          have hl : lv_has ls 5 [(4, .int x13_4), (0, .ref a), (1, .int v0), (2, .int v1), (3, .int v2)] := hl
          refine lv_iload hx hb dX10_row_57 (lv_at hl 0 rfl) ?_
          refine lv_iload_n hx hb dX10_row_59 rfl (lv_at hl 4 rfl) ?_
          refine lv_icmp_ge (tgt := 82) hx hb dX10_row_60 (by decide) (fun c_14 => ?_) (fun c_14 => ?_)
          · skip
            have tc_14 : v2.toInt ≤ x13_4.toInt := (fa_le _ _).mp c_14
            refine lv_iconst (v := 0) hx hb dX10_row_82 (by decide) ?_
            exact ret_i hx hb hr hlocks ⟨⟨hS.1, hS.2.1⟩, G_13, hF, ⟨_, rfl, trivial⟩, hT⟩ hS.2.2 (Nat.le_of_ble_eq_true rfl) (Nat.le_of_ble_eq_true rfl) dX10_row_83
          · skip
            have tc_14 : ¬ v2.toInt ≤ x13_4.toInt := fun h => c_14 ((fa_le _ _).mpr h)
            refine lv_aload_n hx hb dX10_row_63 rfl (lv_at hl 1 rfl) ?_
            refine t_getr cf_11 hx hb hts hown hK hT h_a (k := 3) (P := fun q => τ q = 53) rfl (fun _ h9 => h9) fl_X10_16 (fun _ h9 => h9) dX10_row_64 (fun q_15 eq_15 hq_15 => ?_)
            have eq_15 := (hF.r h_a (by decide) rfl _).symm.trans eq_15
            refine lv_bipush (v := 60) hx hb dX10_row_67 (by decide) ?_
            refine lv_iload_n hx hb dX10_row_69 rfl (lv_at hl 2 rfl) ?_
            refine lv_imul hx hb dX10_row_70 ?_
            refine lv_topi (fun z_16 ez_16 => ?_)
            have tz_16 : z_16.toInt = 60 * v0.toInt := mul_t ez_16 (show -2147483648 ≤ 60 * v0.toInt by omega) (show 60 * v0.toInt < 2147483648 by omega)
            refine lv_iload hx hb dX10_row_71 (lv_at hl 0 rfl) ?_
            refine lv_iadd hx hb dX10_row_73 ?_
            refine lv_topi (fun z_17 ez_17 => ?_)
            have tz_17 : z_17.toInt = z_16.toInt + x13_4.toInt := add_t ez_17 (show -2147483648 ≤ z_16.toInt + x13_4.toInt by omega) (show z_16.toInt + x13_4.toInt < 2147483648 by omega)
            refine lv_lconst (v := 0) hx hb dX10_row_74 (by decide) ?_
            refine t_last (n := 240) (i := z_17) (x := 0) rfl (by decide) hx hb hK hT hS hq_15 (hT.len hq_15 (by decide)) ⟨by omega, by omega⟩ dX10_row_75 (fun H locs G_18 eG_18 hT hS => ?_)
            have hF := hF.wL eG_18 hq_15 rfl
            obtain ⟨z_19, ez_19⟩ : ∃ y : Int32, y = x13_4 + 1 := ⟨_, rfl⟩
            have tz_19 : z_19.toInt = x13_4.toInt + 1 := add_t ez_19 (show -2147483648 ≤ x13_4.toInt + 1 by omega) (show x13_4.toInt + 1 < 2147483648 by omega)
            refine lv_iinc (v := z_19) (lv' := [(4, .int z_19), (0, .ref a), (1, .int v0), (2, .int v1), (3, .int v2)]) hx hb dX10_row_76 hl (k := 0) rfl (by rw [ez_19]; rfl) (by decide) rfl (fun ls hl => ?_)
            refine lv_goto (tgt := 57) hx hb dX10_row_79 (by decide) ?_
            exact ih13 (z_19, G_18) _ _ _ (by show (60 - z_19.toInt).toNat < (60 - x13_4.toInt).toNat; omega) ⟨(by show 0 ≤ z_19.toInt; omega), (by show z_19.toInt ≤ 60; omega), hF, hT, hS, lv_sub hl [0, 1, 2, 3, 4] rfl⟩
        · skip
          have tc_8 : ¬ 0 ≤ v2.toInt := fun h => c_8 ((fa_le _ _).mpr h)
          refine lv_bipush (v := (-3)) hx hb dX10_row_37 (by decide) ?_
          exact ret_i hx hb hr hlocks ⟨⟨hS.1, hS.2.1⟩, G_1, hF, ⟨_, rfl, trivial⟩, hT⟩ hS.2.2 (Nat.le_of_ble_eq_true rfl) (Nat.le_of_ble_eq_true rfl) dX10_row_39
      · skip
        have tc_7 : ¬ v2.toInt ≤ 60 := fun h => c_7 ((fa_le _ _).mpr h)
        have mc_7 : v2.toInt ≤ 2147483647 := max_t v2
        refine lv_bipush (v := (-2)) hx hb dX10_row_30 (by decide) ?_
        exact ret_i hx hb hr hlocks ⟨⟨hS.1, hS.2.1⟩, G_1, hF, ⟨_, rfl, trivial⟩, hT⟩ hS.2.2 (Nat.le_of_ble_eq_true rfl) (Nat.le_of_ble_eq_true rfl) dX10_row_32
    · skip
      have er_5 := hr_5_1
      subst er_5
      refine W.eq (g2 := F0 m 21 ls [.int 0]) rfl ?_
      refine lv_if_eq (tgt := 30) hx hb dX10_row_21 (by decide) (fun _ => ?_) (fun c_20 => absurd (by decide) c_20)
      refine lv_bipush (v := (-2)) hx hb dX10_row_30 (by decide) ?_
      exact ret_i hx hb hr hlocks ⟨⟨hS.1, hS.2.1⟩, G_1, hF, ⟨_, rfl, trivial⟩, hT⟩ hS.2.2 (Nat.le_of_ble_eq_true rfl) (Nat.le_of_ble_eq_true rfl) dX10_row_32
  · skip
    have er_2 := hr_2_1
    subst er_2
    refine W.eq (g2 := F0 m 9 ls [.int 0]) rfl ?_
    refine lv_if_eq (tgt := 30) hx hb dX10_row_9 (by decide) (fun _ => ?_) (fun c_21 => absurd (by decide) c_21)
    refine lv_bipush (v := (-2)) hx hb dX10_row_30 (by decide) ?_
    exact ret_i hx hb hr hlocks ⟨⟨hS.1, hS.2.1⟩, G_1, hF, ⟨_, rfl, trivial⟩, hT⟩ hS.2.2 (Nat.le_of_ble_eq_true rfl) (Nat.le_of_ble_eq_true rfl) dX10_row_32
set_option maxHeartbeats 4000000 in
set_option maxRecDepth 100000 in
theorem t_X10_write (l : Launch) (D : va_G) (cy : Nat → ClassId) (base : Nat) (τ : Nat → Nat) (G : Gh) (a : Nat) (h_a : τ a = 11) (v0 : Int32) (v1 : Int32) (v2 : Int64) : MM l yX10_write cX10_write 5 (some .int) 2 0 0 D cy [.ref a, .int v0, .int v1, .long v2] (PT D cy base τ G) (QT D cy base τ G [11, 53] (fun v g => ∃ r : Int32, v = some (.int r) ∧ (True))) (RA base) := by
  refine MM.of (by decide) (Nat.le_of_ble_eq_true rfl) ?_
  intro p e s m below meth c C hPT ls hl
  obtain ⟨hx, hb, hr, hml, hown, hts, hlocks, hK, hnm⟩ := C
  obtain ⟨hZ, hT⟩ := hPT
  have hS : va_S (RA base) s.heap s.heap [] := va_S.rf
  have hF : Fr τ [11, 53] G G := Fr.rf
  have hl : lv_has ls 5 [(0, .ref a), (1, .int v0), (2, .int v1), (3, .long v2)] := hl
  refine lv_aload_n hx hb dX10_write_0 rfl (lv_at hl 0 rfl) ?_
  refine lv_iconst (v := 0) hx hb dX10_write_1 (by decide) ?_
  refine t_puti (x := 0) cf_11 hx hb hts hown hK hT hS h_a (k := 0) rfl trivial fl_X10_111 (fun _ h9 => h9) rfl rfl rfl dX10_write_2 (fun H locs G_1 eG_1 hT hS => ?_)
  have hF := hF.wI eG_1 h_a rfl
  refine lv_iload_n hx hb dX10_write_5 rfl (lv_at hl 1 rfl) ?_
  refine pu_calli (runS (As := [.int v0]) (rest := []) ⟨hx, hb, hml, hown, hts⟩ (t_X10_isSlot l D cy base τ G_1 v0) sS_X10_120 hK ⟨Nat.le_trans hZ hS.1, hT⟩ ⟨Nat.le_of_ble_eq_true rfl, Nat.le_of_ble_eq_true rfl⟩ rfl hl.1 rfl (Nat.le_of_ble_eq_true rfl) dX10_write_6 ⟨Nat.le_of_ble_eq_true rfl, Nat.le_of_ble_eq_true rfl⟩) (fun r_2 hr_2 => ?_)
  have hr_2_c := hr_2
  rcases hr_2_c with hr_2_0 | hr_2_1
  · skip
    obtain ⟨er_2, hr_2_0_f0, hr_2_0_f1⟩ := hr_2_0
    have hr_2_0_f0 : 0 ≤ v0.toInt := hr_2_0_f0
    have hr_2_0_f1 : v0.toInt ≤ 3 := hr_2_0_f1
    subst er_2
    refine W.eq (g2 := F0 m 9 ls [.int 1]) rfl ?_
    refine lv_if_ne (tgt := 15) hx hb dX10_write_9 (by decide) (fun _ => ?_) (fun c_3 => absurd c_3 (by decide))
    refine lv_aload_n hx hb dX10_write_15 rfl (lv_at hl 0 rfl) ?_
    refine t_getr cf_11 hx hb hts hown hK hT h_a (k := 1) (P := fun q => τ q = 51) rfl (fun _ h9 => h9) fl_X10_7 (fun _ h9 => h9) dX10_write_16 (fun q_4 eq_4 hq_4 => ?_)
    have eq_4 := (hF.r h_a (by decide) rfl _).symm.trans eq_4
    refine lv_iload_n hx hb dX10_write_19 rfl (lv_at hl 1 rfl) ?_
    refine t_iald (n := 4) (i := v0) rfl (by decide) hx hb hK hT hq_4 (hT.len hq_4 (by decide)) ⟨by omega, by omega⟩ dX10_write_20 (fun z_5 ez_5 rz_5 => ?_)
    have rz_5 : -1 ≤ z_5.toInt ∧ z_5.toInt ≤ 3 := rz_5
    have ez_5 : z_5 = G.1 q_4 v0.toNatClampNeg := ez_5.trans (hF.i hq_4 (by decide) rfl _)
    refine lv_iconst (v := (-1)) hx hb dX10_write_21 (by decide) ?_
    refine lv_icmp_ne (tgt := 28) hx hb dX10_write_22 (by decide) (fun c_6 => ?_) (fun c_6 => ?_)
    · skip
      have tc_6 : ¬ z_5.toInt = -1 := fun h => c_6 ((fa_eq _ _).mpr h)
      refine lv_iload_n hx hb dX10_write_28 rfl (lv_at hl 2 rfl) ?_
      refine lv_i2l hx hb dX10_write_29 rfl ?_
      refine lv_topl (fun z_7 ez_7 => ?_)
      have tz_7 : z_7.toInt = v1.toInt := by rw [ez_7]; exact wide_t v1
      have az_7 := min_t v1
      have bz_7 := max_t v1
      refine lv_lconst (v := 0) hx hb dX10_write_30 (by decide) ?_
      refine lv_aload_n hx hb dX10_write_31 rfl (lv_at hl 0 rfl) ?_
      refine t_getr cf_11 hx hb hts hown hK hT h_a (k := 2) (P := fun q => τ q = 52) rfl (fun _ h9 => h9) fl_X10_13 (fun _ h9 => h9) dX10_write_32 (fun q_8 eq_8 hq_8 => ?_)
      have eq_8 := (hF.r h_a (by decide) rfl _).symm.trans eq_8
      refine lv_iload_n hx hb dX10_write_35 rfl (lv_at hl 1 rfl) ?_
      refine t_iald (n := 4) (i := v0) rfl (by decide) hx hb hK hT hq_8 (hT.len hq_8 (by decide)) ⟨by omega, by omega⟩ dX10_write_36 (fun z_9 ez_9 rz_9 => ?_)
      have rz_9 : 0 ≤ z_9.toInt ∧ z_9.toInt ≤ 60 := rz_9
      have ez_9 : z_9 = G.1 q_8 v0.toNatClampNeg := ez_9.trans (hF.i hq_8 (by decide) rfl _)
      refine lv_iconst (v := 1) hx hb dX10_write_37 (by decide) ?_
      refine lv_isub hx hb dX10_write_38 ?_
      refine lv_topi (fun z_10 ez_10 => ?_)
      have tz_10 : z_10.toInt = z_9.toInt - 1 := sub_t ez_10 (show -2147483648 ≤ z_9.toInt - 1 by omega) (show z_9.toInt - 1 < 2147483648 by omega)
      refine lv_i2l hx hb dX10_write_39 rfl ?_
      refine lv_topl (fun z_11 ez_11 => ?_)
      have tz_11 : z_11.toInt = z_10.toInt := by rw [ez_11]; exact wide_t z_10
      refine pu_calli (runS (As := [.long z_7, .long 0, .long z_11]) (rest := []) ⟨hx, hb, hml, hown, hts⟩ (t_X10_in l D cy base τ G_1 z_7 0 z_11) sS_X10_116 hK ⟨Nat.le_trans hZ hS.1, hT⟩ ⟨Nat.le_of_ble_eq_true rfl, Nat.le_of_ble_eq_true rfl⟩ rfl hl.1 rfl (Nat.le_of_ble_eq_true rfl) dX10_write_40 ⟨Nat.le_of_ble_eq_true rfl, Nat.le_of_ble_eq_true rfl⟩) (fun r_12 hr_12 => ?_)
      have hr_12_c := hr_12
      rcases hr_12_c with hr_12_0 | hr_12_1
      · skip
        obtain ⟨er_12, hr_12_0_f0, hr_12_0_f1⟩ := hr_12_0
        have hr_12_0_f0 : 0 ≤ z_7.toInt := hr_12_0_f0
        have hr_12_0_f1 : z_7.toInt ≤ z_11.toInt := hr_12_0_f1
        subst er_12
        refine W.eq (g2 := F0 m 43 ls [.int 1]) rfl ?_
        refine lv_if_ne (tgt := 49) hx hb dX10_write_43 (by decide) (fun _ => ?_) (fun c_13 => absurd c_13 (by decide))
        refine lv_aload_n hx hb dX10_write_49 rfl (lv_at hl 0 rfl) ?_
        refine t_getr cf_11 hx hb hts hown hK hT h_a (k := 3) (P := fun q => τ q = 53) rfl (fun _ h9 => h9) fl_X10_16 (fun _ h9 => h9) dX10_write_50 (fun q_14 eq_14 hq_14 => ?_)
        have eq_14 := (hF.r h_a (by decide) rfl _).symm.trans eq_14
        refine lv_bipush (v := 60) hx hb dX10_write_53 (by decide) ?_
        refine lv_iload_n hx hb dX10_write_55 rfl (lv_at hl 1 rfl) ?_
        refine lv_imul hx hb dX10_write_56 ?_
        refine lv_topi (fun z_15 ez_15 => ?_)
        have tz_15 : z_15.toInt = 60 * v0.toInt := mul_t ez_15 (show -2147483648 ≤ 60 * v0.toInt by omega) (show 60 * v0.toInt < 2147483648 by omega)
        refine lv_iload_n hx hb dX10_write_57 rfl (lv_at hl 2 rfl) ?_
        refine lv_iadd hx hb dX10_write_58 ?_
        refine lv_topi (fun z_16 ez_16 => ?_)
        have tz_16 : z_16.toInt = z_15.toInt + v1.toInt := add_t ez_16 (show -2147483648 ≤ z_15.toInt + v1.toInt by omega) (show z_15.toInt + v1.toInt < 2147483648 by omega)
        refine lv_lload_n hx hb dX10_write_59 rfl (lv_at hl 3 rfl) ?_
        refine lv_aload_n hx hb dX10_write_60 rfl (lv_at hl 0 rfl) ?_
        refine t_getr cf_11 hx hb hts hown hK hT h_a (k := 1) (P := fun q => τ q = 51) rfl (fun _ h9 => h9) fl_X10_7 (fun _ h9 => h9) dX10_write_61 (fun q_17 eq_17 hq_17 => ?_)
        have w_18 : q_4 = q_17 := Option.some.inj (eq_4.symm.trans ((hF.r h_a (by decide) rfl _).symm.trans eq_17))
        subst w_18
        refine lv_iload_n hx hb dX10_write_64 rfl (lv_at hl 1 rfl) ?_
        refine t_iald (n := 4) (i := v0) rfl (by decide) hx hb hK hT hq_4 (hT.len hq_4 (by decide)) ⟨by omega, by omega⟩ dX10_write_65 (fun z_19 ez_19 rz_19 => ?_)
        have w_20 : z_5 = z_19 := ez_5.trans (ez_19.trans (hF.i hq_4 (by decide) rfl _)).symm
        subst w_20
        refine pu_calll (runS (As := [.long v2, .int z_5]) (rest := [.int z_16, .ref q_14]) ⟨hx, hb, hml, hown, hts⟩ (t_X10_cut l D cy base τ G_1 v2 z_5) sS_X10_124 hK ⟨Nat.le_trans hZ hS.1, hT⟩ ⟨Nat.le_of_ble_eq_true rfl, Nat.le_of_ble_eq_true rfl⟩ rfl hl.1 rfl (Nat.le_of_ble_eq_true rfl) dX10_write_66 ⟨Nat.le_of_ble_eq_true rfl, Nat.le_of_ble_eq_true rfl⟩) (fun r_21 hr_21 => ?_)
        refine t_last (n := 240) (i := z_16) (x := r_21) rfl (by decide) hx hb hK hT hS hq_14 (hT.len hq_14 (by decide)) ⟨by omega, by omega⟩ dX10_write_69 (fun H locs G_22 eG_22 hT hS => ?_)
        have hF := hF.wL eG_22 hq_14 rfl
        refine lv_iconst (v := 0) hx hb dX10_write_70 (by decide) ?_
        exact ret_i hx hb hr hlocks ⟨⟨hS.1, hS.2.1⟩, G_22, hF, ⟨_, rfl, trivial⟩, hT⟩ hS.2.2 (Nat.le_of_ble_eq_true rfl) (Nat.le_of_ble_eq_true rfl) dX10_write_71
      · skip
        have er_12 := hr_12_1
        subst er_12
        refine W.eq (g2 := F0 m 43 ls [.int 0]) rfl ?_
        refine lv_if_ne (tgt := 49) hx hb dX10_write_43 (by decide) (fun c_23 => absurd rfl c_23) (fun _ => ?_)
        refine lv_bipush (v := (-7)) hx hb dX10_write_46 (by decide) ?_
        exact ret_i hx hb hr hlocks ⟨⟨hS.1, hS.2.1⟩, G_1, hF, ⟨_, rfl, trivial⟩, hT⟩ hS.2.2 (Nat.le_of_ble_eq_true rfl) (Nat.le_of_ble_eq_true rfl) dX10_write_48
    · skip
      have tc_6 : z_5.toInt = -1 := (fa_eq _ _).mp c_6
      refine lv_bipush (v := (-6)) hx hb dX10_write_25 (by decide) ?_
      exact ret_i hx hb hr hlocks ⟨⟨hS.1, hS.2.1⟩, G_1, hF, ⟨_, rfl, trivial⟩, hT⟩ hS.2.2 (Nat.le_of_ble_eq_true rfl) (Nat.le_of_ble_eq_true rfl) dX10_write_27
  · skip
    have er_2 := hr_2_1
    subst er_2
    refine W.eq (g2 := F0 m 9 ls [.int 0]) rfl ?_
    refine lv_if_ne (tgt := 15) hx hb dX10_write_9 (by decide) (fun c_24 => absurd rfl c_24) (fun _ => ?_)
    refine lv_bipush (v := (-2)) hx hb dX10_write_12 (by decide) ?_
    exact ret_i hx hb hr hlocks ⟨⟨hS.1, hS.2.1⟩, G_1, hF, ⟨_, rfl, trivial⟩, hT⟩ hS.2.2 (Nat.le_of_ble_eq_true rfl) (Nat.le_of_ble_eq_true rfl) dX10_write_14
set_option maxHeartbeats 4000000 in
set_option maxRecDepth 100000 in
theorem t_X10_paste (l : Launch) (D : va_G) (cy : Nat → ClassId) (base : Nat) (τ : Nat → Nat) (G : Gh) (a : Nat) (h_a : τ a = 11) (v0 : Int32) (v1 : Int32) (v2 : Int32) (v3 : Int32) (v4 : Int32) : MM l yX10_paste cX10_paste 7 (some .int) 2 0 0 D cy [.ref a, .int v0, .int v1, .int v2, .int v3, .int v4] (PT D cy base τ G) (QT D cy base τ G [11, 53, 54] (fun v g => ∃ r : Int32, v = some (.int r) ∧ (True))) (RA base) := by
  refine MM.of (by decide) (Nat.le_of_ble_eq_true rfl) ?_
  intro p e s m below meth c C hPT ls hl
  obtain ⟨hx, hb, hr, hml, hown, hts, hlocks, hK, hnm⟩ := C
  obtain ⟨hZ, hT⟩ := hPT
  have hS : va_S (RA base) s.heap s.heap [] := va_S.rf
  have hF : Fr τ [11, 53, 54] G G := Fr.rf
  have hl : lv_has ls 7 [(0, .ref a), (1, .int v0), (2, .int v1), (3, .int v2), (4, .int v3), (5, .int v4)] := hl
  refine lv_aload_n hx hb dX10_paste_0 rfl (lv_at hl 0 rfl) ?_
  refine lv_iconst (v := 0) hx hb dX10_paste_1 (by decide) ?_
  refine t_puti (x := 0) cf_11 hx hb hts hown hK hT hS h_a (k := 0) rfl trivial fl_X10_111 (fun _ h9 => h9) rfl rfl rfl dX10_paste_2 (fun H locs G_1 eG_1 hT hS => ?_)
  have hF := hF.wI eG_1 h_a rfl
  refine lv_iload_n hx hb dX10_paste_5 rfl (lv_at hl 1 rfl) ?_
  refine pu_calli (runS (As := [.int v0]) (rest := []) ⟨hx, hb, hml, hown, hts⟩ (t_X10_isSlot l D cy base τ G_1 v0) sS_X10_120 hK ⟨Nat.le_trans hZ hS.1, hT⟩ ⟨Nat.le_of_ble_eq_true rfl, Nat.le_of_ble_eq_true rfl⟩ rfl hl.1 rfl (Nat.le_of_ble_eq_true rfl) dX10_paste_6 ⟨Nat.le_of_ble_eq_true rfl, Nat.le_of_ble_eq_true rfl⟩) (fun r_2 hr_2 => ?_)
  have hr_2_c := hr_2
  rcases hr_2_c with hr_2_0 | hr_2_1
  · skip
    obtain ⟨er_2, hr_2_0_f0, hr_2_0_f1⟩ := hr_2_0
    have hr_2_0_f0 : 0 ≤ v0.toInt := hr_2_0_f0
    have hr_2_0_f1 : v0.toInt ≤ 3 := hr_2_0_f1
    subst er_2
    refine W.eq (g2 := F0 m 9 ls [.int 1]) rfl ?_
    refine lv_if_eq (tgt := 19) hx hb dX10_paste_9 (by decide) (fun c_3 => absurd c_3 (by decide)) (fun _ => ?_)
    refine lv_iload_n hx hb dX10_paste_12 rfl (lv_at hl 3 rfl) ?_
    refine pu_calli (runS (As := [.int v2]) (rest := []) ⟨hx, hb, hml, hown, hts⟩ (t_X10_isSlot l D cy base τ G_1 v2) sS_X10_120 hK ⟨Nat.le_trans hZ hS.1, hT⟩ ⟨Nat.le_of_ble_eq_true rfl, Nat.le_of_ble_eq_true rfl⟩ rfl hl.1 rfl (Nat.le_of_ble_eq_true rfl) dX10_paste_13 ⟨Nat.le_of_ble_eq_true rfl, Nat.le_of_ble_eq_true rfl⟩) (fun r_4 hr_4 => ?_)
    have hr_4_c := hr_4
    rcases hr_4_c with hr_4_0 | hr_4_1
    · skip
      obtain ⟨er_4, hr_4_0_f0, hr_4_0_f1⟩ := hr_4_0
      have hr_4_0_f0 : 0 ≤ v2.toInt := hr_4_0_f0
      have hr_4_0_f1 : v2.toInt ≤ 3 := hr_4_0_f1
      subst er_4
      refine W.eq (g2 := F0 m 16 ls [.int 1]) rfl ?_
      refine lv_if_ne (tgt := 22) hx hb dX10_paste_16 (by decide) (fun _ => ?_) (fun c_5 => absurd c_5 (by decide))
      refine lv_aload_n hx hb dX10_paste_22 rfl (lv_at hl 0 rfl) ?_
      refine t_getr cf_11 hx hb hts hown hK hT h_a (k := 1) (P := fun q => τ q = 51) rfl (fun _ h9 => h9) fl_X10_7 (fun _ h9 => h9) dX10_paste_23 (fun q_6 eq_6 hq_6 => ?_)
      have eq_6 := (hF.r h_a (by decide) rfl _).symm.trans eq_6
      refine lv_iload_n hx hb dX10_paste_26 rfl (lv_at hl 1 rfl) ?_
      refine t_iald (n := 4) (i := v0) rfl (by decide) hx hb hK hT hq_6 (hT.len hq_6 (by decide)) ⟨by omega, by omega⟩ dX10_paste_27 (fun z_7 ez_7 rz_7 => ?_)
      have rz_7 : -1 ≤ z_7.toInt ∧ z_7.toInt ≤ 3 := rz_7
      have ez_7 : z_7 = G.1 q_6 v0.toNatClampNeg := ez_7.trans (hF.i hq_6 (by decide) rfl _)
      refine lv_iconst (v := (-1)) hx hb dX10_paste_28 (by decide) ?_
      refine lv_icmp_eq (tgt := 42) hx hb dX10_paste_29 (by decide) (fun c_8 => ?_) (fun c_8 => ?_)
      · skip
        have tc_8 : z_7.toInt = -1 := (fa_eq _ _).mp c_8
        refine lv_bipush (v := (-6)) hx hb dX10_paste_42 (by decide) ?_
        exact ret_i hx hb hr hlocks ⟨⟨hS.1, hS.2.1⟩, G_1, hF, ⟨_, rfl, trivial⟩, hT⟩ hS.2.2 (Nat.le_of_ble_eq_true rfl) (Nat.le_of_ble_eq_true rfl) dX10_paste_44
      · skip
        have tc_8 : ¬ z_7.toInt = -1 := fun h => c_8 ((fa_eq _ _).mpr h)
        refine lv_aload_n hx hb dX10_paste_32 rfl (lv_at hl 0 rfl) ?_
        refine t_getr cf_11 hx hb hts hown hK hT h_a (k := 1) (P := fun q => τ q = 51) rfl (fun _ h9 => h9) fl_X10_7 (fun _ h9 => h9) dX10_paste_33 (fun q_9 eq_9 hq_9 => ?_)
        have w_10 : q_6 = q_9 := Option.some.inj (eq_6.symm.trans ((hF.r h_a (by decide) rfl _).symm.trans eq_9))
        subst w_10
        refine lv_iload_n hx hb dX10_paste_36 rfl (lv_at hl 3 rfl) ?_
        refine t_iald (n := 4) (i := v2) rfl (by decide) hx hb hK hT hq_6 (hT.len hq_6 (by decide)) ⟨by omega, by omega⟩ dX10_paste_37 (fun z_11 ez_11 rz_11 => ?_)
        have rz_11 : -1 ≤ z_11.toInt ∧ z_11.toInt ≤ 3 := rz_11
        have ez_11 : z_11 = G.1 q_6 v2.toNatClampNeg := ez_11.trans (hF.i hq_6 (by decide) rfl _)
        refine lv_iconst (v := (-1)) hx hb dX10_paste_38 (by decide) ?_
        refine lv_icmp_ne (tgt := 45) hx hb dX10_paste_39 (by decide) (fun c_12 => ?_) (fun c_12 => ?_)
        · skip
          have tc_12 : ¬ z_11.toInt = -1 := fun h => c_12 ((fa_eq _ _).mpr h)
          refine lv_aload_n hx hb dX10_paste_45 rfl (lv_at hl 0 rfl) ?_
          refine t_getr cf_11 hx hb hts hown hK hT h_a (k := 1) (P := fun q => τ q = 51) rfl (fun _ h9 => h9) fl_X10_7 (fun _ h9 => h9) dX10_paste_46 (fun q_13 eq_13 hq_13 => ?_)
          have w_14 : q_6 = q_13 := Option.some.inj (eq_6.symm.trans ((hF.r h_a (by decide) rfl _).symm.trans eq_13))
          subst w_14
          refine lv_iload_n hx hb dX10_paste_49 rfl (lv_at hl 1 rfl) ?_
          refine t_iald (n := 4) (i := v0) rfl (by decide) hx hb hK hT hq_6 (hT.len hq_6 (by decide)) ⟨by omega, by omega⟩ dX10_paste_50 (fun z_15 ez_15 rz_15 => ?_)
          have w_16 : z_7 = z_15 := ez_7.trans (ez_15.trans (hF.i hq_6 (by decide) rfl _)).symm
          subst w_16
          refine lv_aload_n hx hb dX10_paste_51 rfl (lv_at hl 0 rfl) ?_
          refine t_getr cf_11 hx hb hts hown hK hT h_a (k := 1) (P := fun q => τ q = 51) rfl (fun _ h9 => h9) fl_X10_7 (fun _ h9 => h9) dX10_paste_52 (fun q_17 eq_17 hq_17 => ?_)
          have w_18 : q_6 = q_17 := Option.some.inj (eq_6.symm.trans ((hF.r h_a (by decide) rfl _).symm.trans eq_17))
          subst w_18
          refine lv_iload_n hx hb dX10_paste_55 rfl (lv_at hl 3 rfl) ?_
          refine t_iald (n := 4) (i := v2) rfl (by decide) hx hb hK hT hq_6 (hT.len hq_6 (by decide)) ⟨by omega, by omega⟩ dX10_paste_56 (fun z_19 ez_19 rz_19 => ?_)
          have w_20 : z_11 = z_19 := ez_11.trans (ez_19.trans (hF.i hq_6 (by decide) rfl _)).symm
          subst w_20
          refine lv_icmp_eq (tgt := 63) hx hb dX10_paste_57 (by decide) (fun c_21 => ?_) (fun c_21 => ?_)
          · skip
            have tc_21 : z_7.toInt = z_11.toInt := (fa_eq _ _).mp c_21
            refine lv_iload_n hx hb dX10_paste_63 rfl (lv_at hl 2 rfl) ?_
            refine lv_if_lt (tgt := 112) hx hb dX10_paste_64 (by decide) (fun c_22 => ?_) (fun c_22 => ?_)
            · skip
              have tc_22 : v1.toInt < 0 := (fa_lt _ _).mp c_22
              refine lv_bipush (v := (-7)) hx hb dX10_paste_112 (by decide) ?_
              exact ret_i hx hb hr hlocks ⟨⟨hS.1, hS.2.1⟩, G_1, hF, ⟨_, rfl, trivial⟩, hT⟩ hS.2.2 (Nat.le_of_ble_eq_true rfl) (Nat.le_of_ble_eq_true rfl) dX10_paste_114
            · skip
              have tc_22 : ¬ v1.toInt < 0 := fun h => c_22 ((fa_lt _ _).mpr h)
              refine lv_iload hx hb dX10_paste_67 (lv_at hl 4 rfl) ?_
              refine lv_if_lt (tgt := 112) hx hb dX10_paste_69 (by decide) (fun c_23 => ?_) (fun c_23 => ?_)
              · skip
                have tc_23 : v3.toInt < 0 := (fa_lt _ _).mp c_23
                refine lv_bipush (v := (-7)) hx hb dX10_paste_112 (by decide) ?_
                exact ret_i hx hb hr hlocks ⟨⟨hS.1, hS.2.1⟩, G_1, hF, ⟨_, rfl, trivial⟩, hT⟩ hS.2.2 (Nat.le_of_ble_eq_true rfl) (Nat.le_of_ble_eq_true rfl) dX10_paste_114
              · skip
                have tc_23 : ¬ v3.toInt < 0 := fun h => c_23 ((fa_lt _ _).mpr h)
                refine lv_iload hx hb dX10_paste_72 (lv_at hl 5 rfl) ?_
                refine lv_if_lt (tgt := 112) hx hb dX10_paste_74 (by decide) (fun c_24 => ?_) (fun c_24 => ?_)
                · skip
                  have tc_24 : v4.toInt < 0 := (fa_lt _ _).mp c_24
                  refine lv_bipush (v := (-7)) hx hb dX10_paste_112 (by decide) ?_
                  exact ret_i hx hb hr hlocks ⟨⟨hS.1, hS.2.1⟩, G_1, hF, ⟨_, rfl, trivial⟩, hT⟩ hS.2.2 (Nat.le_of_ble_eq_true rfl) (Nat.le_of_ble_eq_true rfl) dX10_paste_114
                · skip
                  have tc_24 : ¬ v4.toInt < 0 := fun h => c_24 ((fa_lt _ _).mpr h)
                  refine lv_iload_n hx hb dX10_paste_77 rfl (lv_at hl 2 rfl) ?_
                  refine lv_i2l hx hb dX10_paste_78 rfl ?_
                  refine lv_topl (fun z_25 ez_25 => ?_)
                  have tz_25 : z_25.toInt = v1.toInt := by rw [ez_25]; exact wide_t v1
                  have bz_25 := max_t v1
                  refine lv_iload hx hb dX10_paste_79 (lv_at hl 5 rfl) ?_
                  refine lv_i2l hx hb dX10_paste_81 rfl ?_
                  refine lv_topl (fun z_26 ez_26 => ?_)
                  have tz_26 : z_26.toInt = v4.toInt := by rw [ez_26]; exact wide_t v4
                  have bz_26 := max_t v4
                  refine lv_ladd hx hb dX10_paste_82 ?_
                  refine lv_topl (fun z_27 ez_27 => ?_)
                  have tz_27 : z_27.toInt = z_25.toInt + z_26.toInt := add_t64 ez_27 (show -9223372036854775808 ≤ z_25.toInt + z_26.toInt by omega) (show z_25.toInt + z_26.toInt < 9223372036854775808 by omega)
                  refine lv_aload_n hx hb dX10_paste_83 rfl (lv_at hl 0 rfl) ?_
                  refine t_getr cf_11 hx hb hts hown hK hT h_a (k := 2) (P := fun q => τ q = 52) rfl (fun _ h9 => h9) fl_X10_13 (fun _ h9 => h9) dX10_paste_84 (fun q_28 eq_28 hq_28 => ?_)
                  have eq_28 := (hF.r h_a (by decide) rfl _).symm.trans eq_28
                  refine lv_iload_n hx hb dX10_paste_87 rfl (lv_at hl 1 rfl) ?_
                  refine t_iald (n := 4) (i := v0) rfl (by decide) hx hb hK hT hq_28 (hT.len hq_28 (by decide)) ⟨by omega, by omega⟩ dX10_paste_88 (fun z_29 ez_29 rz_29 => ?_)
                  have rz_29 : 0 ≤ z_29.toInt ∧ z_29.toInt ≤ 60 := rz_29
                  have ez_29 : z_29 = G.1 q_28 v0.toNatClampNeg := ez_29.trans (hF.i hq_28 (by decide) rfl _)
                  refine lv_i2l hx hb dX10_paste_89 rfl ?_
                  refine lv_topl (fun z_30 ez_30 => ?_)
                  have tz_30 : z_30.toInt = z_29.toInt := by rw [ez_30]; exact wide_t z_29
                  refine W.lcmp hx hb dX10_paste_90 ?_
                  refine lv_topi (fun z_31 ez_31 => ?_)
                  have tz_31 : (z_31.toInt < 0 ↔ z_27.toInt < z_30.toInt) ∧ (0 < z_31.toInt ↔ z_30.toInt < z_27.toInt) ∧ -1 ≤ z_31.toInt ∧ z_31.toInt ≤ 1 := cmp_t ez_31
                  refine lv_if_gt (tgt := 112) hx hb dX10_paste_91 (by decide) (fun c_32 => ?_) (fun c_32 => ?_)
                  · skip
                    have tc_32 : 0 < z_31.toInt := (fa_lt _ _).mp c_32
                    refine lv_bipush (v := (-7)) hx hb dX10_paste_112 (by decide) ?_
                    exact ret_i hx hb hr hlocks ⟨⟨hS.1, hS.2.1⟩, G_1, hF, ⟨_, rfl, trivial⟩, hT⟩ hS.2.2 (Nat.le_of_ble_eq_true rfl) (Nat.le_of_ble_eq_true rfl) dX10_paste_114
                  · skip
                    have tc_32 : ¬ 0 < z_31.toInt := fun h => c_32 ((fa_lt _ _).mpr h)
                    refine lv_iload hx hb dX10_paste_94 (lv_at hl 4 rfl) ?_
                    refine lv_i2l hx hb dX10_paste_96 rfl ?_
                    refine lv_topl (fun z_33 ez_33 => ?_)
                    have tz_33 : z_33.toInt = v3.toInt := by rw [ez_33]; exact wide_t v3
                    have bz_33 := max_t v3
                    refine lv_iload hx hb dX10_paste_97 (lv_at hl 5 rfl) ?_
                    refine lv_i2l hx hb dX10_paste_99 rfl ?_
                    refine lv_topl (fun z_34 ez_34 => ?_)
                    have tz_34 : z_34.toInt = v4.toInt := by rw [ez_34]; exact wide_t v4
                    have bz_34 := max_t v4
                    refine lv_ladd hx hb dX10_paste_100 ?_
                    refine lv_topl (fun z_35 ez_35 => ?_)
                    have tz_35 : z_35.toInt = z_33.toInt + z_34.toInt := add_t64 ez_35 (show -9223372036854775808 ≤ z_33.toInt + z_34.toInt by omega) (show z_33.toInt + z_34.toInt < 9223372036854775808 by omega)
                    refine lv_aload_n hx hb dX10_paste_101 rfl (lv_at hl 0 rfl) ?_
                    refine t_getr cf_11 hx hb hts hown hK hT h_a (k := 2) (P := fun q => τ q = 52) rfl (fun _ h9 => h9) fl_X10_13 (fun _ h9 => h9) dX10_paste_102 (fun q_36 eq_36 hq_36 => ?_)
                    have w_37 : q_28 = q_36 := Option.some.inj (eq_28.symm.trans ((hF.r h_a (by decide) rfl _).symm.trans eq_36))
                    subst w_37
                    refine lv_iload_n hx hb dX10_paste_105 rfl (lv_at hl 3 rfl) ?_
                    refine t_iald (n := 4) (i := v2) rfl (by decide) hx hb hK hT hq_28 (hT.len hq_28 (by decide)) ⟨by omega, by omega⟩ dX10_paste_106 (fun z_38 ez_38 rz_38 => ?_)
                    have rz_38 : 0 ≤ z_38.toInt ∧ z_38.toInt ≤ 60 := rz_38
                    have ez_38 : z_38 = G.1 q_28 v2.toNatClampNeg := ez_38.trans (hF.i hq_28 (by decide) rfl _)
                    refine lv_i2l hx hb dX10_paste_107 rfl ?_
                    refine lv_topl (fun z_39 ez_39 => ?_)
                    have tz_39 : z_39.toInt = z_38.toInt := by rw [ez_39]; exact wide_t z_38
                    refine W.lcmp hx hb dX10_paste_108 ?_
                    refine lv_topi (fun z_40 ez_40 => ?_)
                    have tz_40 : (z_40.toInt < 0 ↔ z_35.toInt < z_39.toInt) ∧ (0 < z_40.toInt ↔ z_39.toInt < z_35.toInt) ∧ -1 ≤ z_40.toInt ∧ z_40.toInt ≤ 1 := cmp_t ez_40
                    refine lv_if_le (tgt := 115) hx hb dX10_paste_109 (by decide) (fun c_41 => ?_) (fun c_41 => ?_)
                    · skip
                      have tc_41 : z_40.toInt ≤ 0 := (fa_le _ _).mp c_41
                      have b_v1 : v1.toInt ≤ 60 := by omega
                      have b_v3 : v3.toInt ≤ 60 := by omega
                      have b_v4 : v4.toInt ≤ 60 := by omega
                      refine lv_iconst (v := 0) hx hb dX10_paste_115 (by decide) ?_
                      refine lv_istore (lv' := [(6, .int 0), (0, .ref a), (1, .int v0), (2, .int v1), (3, .int v2), (4, .int v3), (5, .int v4)]) hx hb dX10_paste_116 hl (by decide) rfl (fun ls hl => ?_)
                      refine W.loop (σ := Int32 × Gh) (fun w42 H locs ls => 0 ≤ w42.1.toInt ∧ w42.1.toInt ≤ 60 ∧ Fr τ [11, 53, 54] G w42.2 ∧ TY D cy base τ w42.2 H ∧ va_S (RA base) s.heap H locs ∧ lv_has ls 7 [(6, .int w42.1), (0, .ref a), (1, .int v0), (2, .int v1), (3, .int v2), (4, .int v3), (5, .int v4)]) (fun w42 => (60 - w42.1.toInt).toNat) ?_ ((0 : Int32), G_1) _ _ _ ⟨(by show 0 ≤ (0 : Int32).toInt; decide), (by show (0 : Int32).toInt ≤ 60; decide), hF, hT, hS, lv_sub hl [0, 1, 2, 3, 4, 5, 6] rfl⟩
                      intro w42 H locs ls hI ih42
                      obtain ⟨x42_6, G_42⟩ := w42
                      obtain ⟨i42_0, i42_1, hF, hT, hS, hl⟩ := hI
                      have i42_0 : 0 ≤ x42_6.toInt := i42_0
                      have i42_1 : x42_6.toInt ≤ 60 := i42_1
                      have hF : Fr τ [11, 53, 54] G G_42 := hF
                      have hT : TY D cy base τ G_42 H := hT
                      have hS : va_S (RA base) s.heap H locs := hS
                      have hl : lv_has ls 7 [(6, .int x42_6), (0, .ref a), (1, .int v0), (2, .int v1), (3, .int v2), (4, .int v3), (5, .int v4)] := hl
                      refine lv_iload hx hb dX10_paste_118 (lv_at hl 0 rfl) ?_
                      refine lv_iload hx hb dX10_paste_120 (lv_at hl 6 rfl) ?_
                      refine lv_icmp_ge (tgt := 152) hx hb dX10_paste_122 (by decide) (fun c_43 => ?_) (fun c_43 => ?_)
                      · skip
                        have tc_43 : v4.toInt ≤ x42_6.toInt := (fa_le _ _).mp c_43
                        refine lv_iconst (v := 0) hx hb dX10_paste_152 (by decide) ?_
                        refine lv_istore (lv' := [(6, .int 0), (0, .ref a), (1, .int v0), (2, .int v1), (3, .int v2), (4, .int v3), (5, .int v4)]) hx hb dX10_paste_153 hl (by decide) rfl (fun ls hl => ?_)
                        refine W.loop (σ := Int32 × Gh) (fun w44 H locs ls => 0 ≤ w44.1.toInt ∧ w44.1.toInt ≤ 60 ∧ Fr τ [11, 53, 54] G w44.2 ∧ TY D cy base τ w44.2 H ∧ va_S (RA base) s.heap H locs ∧ lv_has ls 7 [(6, .int w44.1), (0, .ref a), (1, .int v0), (2, .int v1), (3, .int v2), (4, .int v3), (5, .int v4)]) (fun w44 => (60 - w44.1.toInt).toNat) ?_ ((0 : Int32), G_42) _ _ _ ⟨(by show 0 ≤ (0 : Int32).toInt; decide), (by show (0 : Int32).toInt ≤ 60; decide), hF, hT, hS, lv_sub hl [0, 1, 2, 3, 4, 5, 6] rfl⟩
                        intro w44 H locs ls hI ih44
                        obtain ⟨x44_6, G_44⟩ := w44
                        obtain ⟨i44_0, i44_1, hF, hT, hS, hl⟩ := hI
                        have i44_0 : 0 ≤ x44_6.toInt := i44_0
                        have i44_1 : x44_6.toInt ≤ 60 := i44_1
                        have hF : Fr τ [11, 53, 54] G G_44 := hF
                        have hT : TY D cy base τ G_44 H := hT
                        have hS : va_S (RA base) s.heap H locs := hS
                        have hl : lv_has ls 7 [(6, .int x44_6), (0, .ref a), (1, .int v0), (2, .int v1), (3, .int v2), (4, .int v3), (5, .int v4)] := hl
                        refine lv_iload hx hb dX10_paste_155 (lv_at hl 0 rfl) ?_
                        refine lv_iload hx hb dX10_paste_157 (lv_at hl 6 rfl) ?_
                        refine lv_icmp_ge (tgt := 190) hx hb dX10_paste_159 (by decide) (fun c_45 => ?_) (fun c_45 => ?_)
                        · skip
                          have tc_45 : v4.toInt ≤ x44_6.toInt := (fa_le _ _).mp c_45
                          refine lv_iconst (v := 0) hx hb dX10_paste_190 (by decide) ?_
                          exact ret_i hx hb hr hlocks ⟨⟨hS.1, hS.2.1⟩, G_44, hF, ⟨_, rfl, trivial⟩, hT⟩ hS.2.2 (Nat.le_of_ble_eq_true rfl) (Nat.le_of_ble_eq_true rfl) dX10_paste_191
                        · skip
                          have tc_45 : ¬ v4.toInt ≤ x44_6.toInt := fun h => c_45 ((fa_le _ _).mpr h)
                          refine lv_aload_n hx hb dX10_paste_162 rfl (lv_at hl 1 rfl) ?_
                          refine t_getr cf_11 hx hb hts hown hK hT h_a (k := 3) (P := fun q => τ q = 53) rfl (fun _ h9 => h9) fl_X10_16 (fun _ h9 => h9) dX10_paste_163 (fun q_46 eq_46 hq_46 => ?_)
                          have eq_46 := (hF.r h_a (by decide) rfl _).symm.trans eq_46
                          refine lv_bipush (v := 60) hx hb dX10_paste_166 (by decide) ?_
                          refine lv_iload_n hx hb dX10_paste_168 rfl (lv_at hl 4 rfl) ?_
                          refine lv_imul hx hb dX10_paste_169 ?_
                          refine lv_topi (fun z_47 ez_47 => ?_)
                          have tz_47 : z_47.toInt = 60 * v2.toInt := mul_t ez_47 (show -2147483648 ≤ 60 * v2.toInt by omega) (show 60 * v2.toInt < 2147483648 by omega)
                          refine lv_iload hx hb dX10_paste_170 (lv_at hl 5 rfl) ?_
                          refine lv_iadd hx hb dX10_paste_172 ?_
                          refine lv_topi (fun z_48 ez_48 => ?_)
                          have tz_48 : z_48.toInt = z_47.toInt + v3.toInt := add_t ez_48 (show -2147483648 ≤ z_47.toInt + v3.toInt by omega) (show z_47.toInt + v3.toInt < 2147483648 by omega)
                          refine lv_iload hx hb dX10_paste_173 (lv_at hl 0 rfl) ?_
                          refine lv_iadd hx hb dX10_paste_175 ?_
                          refine lv_topi (fun z_49 ez_49 => ?_)
                          have tz_49 : z_49.toInt = z_48.toInt + x44_6.toInt := add_t ez_49 (show -2147483648 ≤ z_48.toInt + x44_6.toInt by omega) (show z_48.toInt + x44_6.toInt < 2147483648 by omega)
                          refine lv_aload_n hx hb dX10_paste_176 rfl (lv_at hl 1 rfl) ?_
                          refine t_getr cf_11 hx hb hts hown hK hT h_a (k := 4) (P := fun q => τ q = 54) rfl (fun _ h9 => h9) fl_X10_20 (fun _ h9 => h9) dX10_paste_177 (fun q_50 eq_50 hq_50 => ?_)
                          have eq_50 := (hF.r h_a (by decide) rfl _).symm.trans eq_50
                          refine lv_iload hx hb dX10_paste_180 (lv_at hl 0 rfl) ?_
                          refine t_lald (n := 60) (i := x44_6) rfl (by decide) hx hb hK hT hq_50 (hT.len hq_50 (by decide)) ⟨by omega, by omega⟩ dX10_paste_182 (fun z_51 ez_51 => ?_)
                          refine t_last (n := 240) (i := z_49) (x := z_51) rfl (by decide) hx hb hK hT hS hq_46 (hT.len hq_46 (by decide)) ⟨by omega, by omega⟩ dX10_paste_183 (fun H locs G_52 eG_52 hT hS => ?_)
                          have hF := hF.wL eG_52 hq_46 rfl
                          obtain ⟨z_53, ez_53⟩ : ∃ y : Int32, y = x44_6 + 1 := ⟨_, rfl⟩
                          have tz_53 : z_53.toInt = x44_6.toInt + 1 := add_t ez_53 (show -2147483648 ≤ x44_6.toInt + 1 by omega) (show x44_6.toInt + 1 < 2147483648 by omega)
                          refine lv_iinc (v := z_53) (lv' := [(6, .int z_53), (0, .ref a), (1, .int v0), (2, .int v1), (3, .int v2), (4, .int v3), (5, .int v4)]) hx hb dX10_paste_184 hl (k := 0) rfl (by rw [ez_53]; rfl) (by decide) rfl (fun ls hl => ?_)
                          refine lv_goto (tgt := 155) hx hb dX10_paste_187 (by decide) ?_
                          exact ih44 (z_53, G_52) _ _ _ (by show (60 - z_53.toInt).toNat < (60 - x44_6.toInt).toNat; omega) ⟨(by show 0 ≤ z_53.toInt; omega), (by show z_53.toInt ≤ 60; omega), hF, hT, hS, lv_sub hl [0, 1, 2, 3, 4, 5, 6] rfl⟩
                      · skip
                        have tc_43 : ¬ v4.toInt ≤ x42_6.toInt := fun h => c_43 ((fa_le _ _).mpr h)
                        refine lv_aload_n hx hb dX10_paste_125 rfl (lv_at hl 1 rfl) ?_
                        refine t_getr cf_11 hx hb hts hown hK hT h_a (k := 4) (P := fun q => τ q = 54) rfl (fun _ h9 => h9) fl_X10_20 (fun _ h9 => h9) dX10_paste_126 (fun q_54 eq_54 hq_54 => ?_)
                        have eq_54 := (hF.r h_a (by decide) rfl _).symm.trans eq_54
                        refine lv_iload hx hb dX10_paste_129 (lv_at hl 0 rfl) ?_
                        refine lv_aload_n hx hb dX10_paste_131 rfl (lv_at hl 1 rfl) ?_
                        refine t_getr cf_11 hx hb hts hown hK hT h_a (k := 3) (P := fun q => τ q = 53) rfl (fun _ h9 => h9) fl_X10_16 (fun _ h9 => h9) dX10_paste_132 (fun q_55 eq_55 hq_55 => ?_)
                        have eq_55 := (hF.r h_a (by decide) rfl _).symm.trans eq_55
                        refine lv_bipush (v := 60) hx hb dX10_paste_135 (by decide) ?_
                        refine lv_iload_n hx hb dX10_paste_137 rfl (lv_at hl 2 rfl) ?_
                        refine lv_imul hx hb dX10_paste_138 ?_
                        refine lv_topi (fun z_56 ez_56 => ?_)
                        have tz_56 : z_56.toInt = 60 * v0.toInt := mul_t ez_56 (show -2147483648 ≤ 60 * v0.toInt by omega) (show 60 * v0.toInt < 2147483648 by omega)
                        refine lv_iload_n hx hb dX10_paste_139 rfl (lv_at hl 3 rfl) ?_
                        refine lv_iadd hx hb dX10_paste_140 ?_
                        refine lv_topi (fun z_57 ez_57 => ?_)
                        have tz_57 : z_57.toInt = z_56.toInt + v1.toInt := add_t ez_57 (show -2147483648 ≤ z_56.toInt + v1.toInt by omega) (show z_56.toInt + v1.toInt < 2147483648 by omega)
                        refine lv_iload hx hb dX10_paste_141 (lv_at hl 0 rfl) ?_
                        refine lv_iadd hx hb dX10_paste_143 ?_
                        refine lv_topi (fun z_58 ez_58 => ?_)
                        have tz_58 : z_58.toInt = z_57.toInt + x42_6.toInt := add_t ez_58 (show -2147483648 ≤ z_57.toInt + x42_6.toInt by omega) (show z_57.toInt + x42_6.toInt < 2147483648 by omega)
                        refine t_lald (n := 240) (i := z_58) rfl (by decide) hx hb hK hT hq_55 (hT.len hq_55 (by decide)) ⟨by omega, by omega⟩ dX10_paste_144 (fun z_59 ez_59 => ?_)
                        refine t_last (n := 60) (i := x42_6) (x := z_59) rfl (by decide) hx hb hK hT hS hq_54 (hT.len hq_54 (by decide)) ⟨by omega, by omega⟩ dX10_paste_145 (fun H locs G_60 eG_60 hT hS => ?_)
                        have hF := hF.wL eG_60 hq_54 rfl
                        obtain ⟨z_61, ez_61⟩ : ∃ y : Int32, y = x42_6 + 1 := ⟨_, rfl⟩
                        have tz_61 : z_61.toInt = x42_6.toInt + 1 := add_t ez_61 (show -2147483648 ≤ x42_6.toInt + 1 by omega) (show x42_6.toInt + 1 < 2147483648 by omega)
                        refine lv_iinc (v := z_61) (lv' := [(6, .int z_61), (0, .ref a), (1, .int v0), (2, .int v1), (3, .int v2), (4, .int v3), (5, .int v4)]) hx hb dX10_paste_146 hl (k := 0) rfl (by rw [ez_61]; rfl) (by decide) rfl (fun ls hl => ?_)
                        refine lv_goto (tgt := 118) hx hb dX10_paste_149 (by decide) ?_
                        exact ih42 (z_61, G_60) _ _ _ (by show (60 - z_61.toInt).toNat < (60 - x42_6.toInt).toNat; omega) ⟨(by show 0 ≤ z_61.toInt; omega), (by show z_61.toInt ≤ 60; omega), hF, hT, hS, lv_sub hl [0, 1, 2, 3, 4, 5, 6] rfl⟩
                    · skip
                      have tc_41 : ¬ z_40.toInt ≤ 0 := fun h => c_41 ((fa_le _ _).mpr h)
                      refine lv_bipush (v := (-7)) hx hb dX10_paste_112 (by decide) ?_
                      exact ret_i hx hb hr hlocks ⟨⟨hS.1, hS.2.1⟩, G_1, hF, ⟨_, rfl, trivial⟩, hT⟩ hS.2.2 (Nat.le_of_ble_eq_true rfl) (Nat.le_of_ble_eq_true rfl) dX10_paste_114
          · skip
            have tc_21 : ¬ z_7.toInt = z_11.toInt := fun h => c_21 ((fa_eq _ _).mpr h)
            refine lv_bipush (v := (-8)) hx hb dX10_paste_60 (by decide) ?_
            exact ret_i hx hb hr hlocks ⟨⟨hS.1, hS.2.1⟩, G_1, hF, ⟨_, rfl, trivial⟩, hT⟩ hS.2.2 (Nat.le_of_ble_eq_true rfl) (Nat.le_of_ble_eq_true rfl) dX10_paste_62
        · skip
          have tc_12 : z_11.toInt = -1 := (fa_eq _ _).mp c_12
          refine lv_bipush (v := (-6)) hx hb dX10_paste_42 (by decide) ?_
          exact ret_i hx hb hr hlocks ⟨⟨hS.1, hS.2.1⟩, G_1, hF, ⟨_, rfl, trivial⟩, hT⟩ hS.2.2 (Nat.le_of_ble_eq_true rfl) (Nat.le_of_ble_eq_true rfl) dX10_paste_44
    · skip
      have er_4 := hr_4_1
      subst er_4
      refine W.eq (g2 := F0 m 16 ls [.int 0]) rfl ?_
      refine lv_if_ne (tgt := 22) hx hb dX10_paste_16 (by decide) (fun c_62 => absurd rfl c_62) (fun _ => ?_)
      refine lv_bipush (v := (-2)) hx hb dX10_paste_19 (by decide) ?_
      exact ret_i hx hb hr hlocks ⟨⟨hS.1, hS.2.1⟩, G_1, hF, ⟨_, rfl, trivial⟩, hT⟩ hS.2.2 (Nat.le_of_ble_eq_true rfl) (Nat.le_of_ble_eq_true rfl) dX10_paste_21
  · skip
    have er_2 := hr_2_1
    subst er_2
    refine W.eq (g2 := F0 m 9 ls [.int 0]) rfl ?_
    refine lv_if_eq (tgt := 19) hx hb dX10_paste_9 (by decide) (fun _ => ?_) (fun c_63 => absurd (by decide) c_63)
    refine lv_bipush (v := (-2)) hx hb dX10_paste_19 (by decide) ?_
    exact ret_i hx hb hr hlocks ⟨⟨hS.1, hS.2.1⟩, G_1, hF, ⟨_, rfl, trivial⟩, hT⟩ hS.2.2 (Nat.le_of_ble_eq_true rfl) (Nat.le_of_ble_eq_true rfl) dX10_paste_21
set_option maxHeartbeats 4000000 in
set_option maxRecDepth 100000 in
theorem t_X10_fault (l : Launch) (D : va_G) (cy : Nat → ClassId) (base : Nat) (τ : Nat → Nat) (G : Gh) (a : Nat) (h_a : τ a = 11) (v0 : Int32) : MM l yX10_fault cX10_fault 2 (some .int) 0 0 0 D cy [.ref a, .int v0] (PT D cy base τ G) (QT D cy base τ G [11] (fun v g => ∃ r : Int32, v = some (.int r) ∧ (True))) (RA base) := by
  refine MM.of (by decide) (Nat.le_of_ble_eq_true rfl) ?_
  intro p e s m below meth c C hPT ls hl
  obtain ⟨hx, hb, hr, hml, hown, hts, hlocks, hK, hnm⟩ := C
  obtain ⟨hZ, hT⟩ := hPT
  have hS : va_S (RA base) s.heap s.heap [] := va_S.rf
  have hF : Fr τ [11] G G := Fr.rf
  have hl : lv_has ls 2 [(0, .ref a), (1, .int v0)] := hl
  refine lv_aload_n hx hb dX10_fault_0 rfl (lv_at hl 0 rfl) ?_
  refine lv_iconst (v := 0) hx hb dX10_fault_1 (by decide) ?_
  refine t_puti (x := 0) cf_11 hx hb hts hown hK hT hS h_a (k := 0) rfl trivial fl_X10_111 (fun _ h9 => h9) rfl rfl rfl dX10_fault_2 (fun H locs G_1 eG_1 hT hS => ?_)
  have hF := hF.wI eG_1 h_a rfl
  refine lv_iload_n hx hb dX10_fault_5 rfl (lv_at hl 1 rfl) ?_
  refine lv_if_ne (tgt := 16) hx hb dX10_fault_6 (by decide) (fun c_2 => ?_) (fun c_2 => ?_)
  · skip
    have tc_2 : ¬ v0.toInt = 0 := fun h => c_2 ((fa_eq _ _).mpr h)
    refine lv_iload_n hx hb dX10_fault_16 rfl (lv_at hl 1 rfl) ?_
    refine lv_iconst (v := 1) hx hb dX10_fault_17 (by decide) ?_
    refine lv_icmp_ne (tgt := 28) hx hb dX10_fault_18 (by decide) (fun c_3 => ?_) (fun c_3 => ?_)
    · skip
      have tc_3 : ¬ v0.toInt = 1 := fun h => c_3 ((fa_eq _ _).mpr h)
      refine lv_iconst (v := (-1)) hx hb dX10_fault_28 (by decide) ?_
      exact ret_i hx hb hr hlocks ⟨⟨hS.1, hS.2.1⟩, G_1, hF, ⟨_, rfl, trivial⟩, hT⟩ hS.2.2 (Nat.le_of_ble_eq_true rfl) (Nat.le_of_ble_eq_true rfl) dX10_fault_29
    · skip
      have tc_3 : v0.toInt = 1 := (fa_eq _ _).mp c_3
      refine lv_aload_n hx hb dX10_fault_21 rfl (lv_at hl 0 rfl) ?_
      refine t_geti cf_11 hx hb hts hown hK hT h_a (k := 15) rfl fl_X10_27 (fun _ h9 => h9) dX10_fault_22 (fun z_4 ez_4 rz_4 => ?_)
      have ez_4 : z_4 = G_1.1 a 15 := ez_4
      refine lv_goto (tgt := 29) hx hb dX10_fault_25 (by decide) ?_
      exact ret_i hx hb hr hlocks ⟨⟨hS.1, hS.2.1⟩, G_1, hF, ⟨_, rfl, trivial⟩, hT⟩ hS.2.2 (Nat.le_of_ble_eq_true rfl) (Nat.le_of_ble_eq_true rfl) dX10_fault_29
  · skip
    have tc_2 : v0.toInt = 0 := (fa_eq _ _).mp c_2
    refine lv_aload_n hx hb dX10_fault_9 rfl (lv_at hl 0 rfl) ?_
    refine t_geti cf_11 hx hb hts hown hK hT h_a (k := 14) rfl fl_X10_190 (fun _ h9 => h9) dX10_fault_10 (fun z_5 ez_5 rz_5 => ?_)
    have ez_5 : z_5 = G_1.1 a 14 := ez_5
    refine lv_goto (tgt := 29) hx hb dX10_fault_13 (by decide) ?_
    exact ret_i hx hb hr hlocks ⟨⟨hS.1, hS.2.1⟩, G_1, hF, ⟨_, rfl, trivial⟩, hT⟩ hS.2.2 (Nat.le_of_ble_eq_true rfl) (Nat.le_of_ble_eq_true rfl) dX10_fault_29
set_option maxHeartbeats 4000000 in
set_option maxRecDepth 100000 in
theorem t_X10_end (l : Launch) (D : va_G) (cy : Nat → ClassId) (base : Nat) (τ : Nat → Nat) (G : Gh) (a : Nat) (h_a : τ a = 11) (v0 : Int32) : MM l yX10_end cX10_end 2 (some .int) 1 0 0 D cy [.ref a, .int v0] (PT D cy base τ G) (QT D cy base τ G [11] (fun v g => ∃ r : Int32, v = some (.int r) ∧ (True))) (RA base) := by
  refine MM.of (by decide) (Nat.le_of_ble_eq_true rfl) ?_
  intro p e s m below meth c C hPT ls hl
  obtain ⟨hx, hb, hr, hml, hown, hts, hlocks, hK, hnm⟩ := C
  obtain ⟨hZ, hT⟩ := hPT
  have hS : va_S (RA base) s.heap s.heap [] := va_S.rf
  have hF : Fr τ [11] G G := Fr.rf
  have hl : lv_has ls 2 [(0, .ref a), (1, .int v0)] := hl
  refine lv_aload_n hx hb dX10_end_0 rfl (lv_at hl 0 rfl) ?_
  refine lv_iconst (v := 0) hx hb dX10_end_1 (by decide) ?_
  refine t_puti (x := 0) cf_11 hx hb hts hown hK hT hS h_a (k := 0) rfl trivial fl_X10_111 (fun _ h9 => h9) rfl rfl rfl dX10_end_2 (fun H locs G_1 eG_1 hT hS => ?_)
  have hF := hF.wI eG_1 h_a rfl
  refine lv_iload_n hx hb dX10_end_5 rfl (lv_at hl 1 rfl) ?_
  refine lv_i2l hx hb dX10_end_6 rfl ?_
  refine lv_topl (fun z_2 ez_2 => ?_)
  have tz_2 : z_2.toInt = v0.toInt := by rw [ez_2]; exact wide_t v0
  have az_2 := min_t v0
  have bz_2 := max_t v0
  refine lv_lconst (v := 0) hx hb dX10_end_7 (by decide) ?_
  refine lv_aload_n hx hb dX10_end_8 rfl (lv_at hl 0 rfl) ?_
  refine t_geti cf_11 hx hb hts hown hK hT h_a (k := 6) rfl fl_X10_128 (fun _ h9 => h9) dX10_end_9 (fun z_3 ez_3 rz_3 => ?_)
  have ez_3 : z_3 = G_1.1 a 6 := ez_3
  have rz_3 : 0 ≤ z_3.toInt ∧ z_3.toInt ≤ 1600 := rz_3
  refine lv_i2l hx hb dX10_end_12 rfl ?_
  refine lv_topl (fun z_4 ez_4 => ?_)
  have tz_4 : z_4.toInt = z_3.toInt := by rw [ez_4]; exact wide_t z_3
  refine pu_calli (runS (As := [.long z_2, .long 0, .long z_4]) (rest := []) ⟨hx, hb, hml, hown, hts⟩ (t_X10_in l D cy base τ G_1 z_2 0 z_4) sS_X10_116 hK ⟨Nat.le_trans hZ hS.1, hT⟩ ⟨Nat.le_of_ble_eq_true rfl, Nat.le_of_ble_eq_true rfl⟩ rfl hl.1 rfl (Nat.le_of_ble_eq_true rfl) dX10_end_13 ⟨Nat.le_of_ble_eq_true rfl, Nat.le_of_ble_eq_true rfl⟩) (fun r_5 hr_5 => ?_)
  have hr_5_c := hr_5
  rcases hr_5_c with hr_5_0 | hr_5_1
  · skip
    obtain ⟨er_5, hr_5_0_f0, hr_5_0_f1⟩ := hr_5_0
    have hr_5_0_f0 : 0 ≤ z_2.toInt := hr_5_0_f0
    have hr_5_0_f1 : z_2.toInt ≤ z_4.toInt := hr_5_0_f1
    subst er_5
    refine W.eq (g2 := F0 m 16 ls [.int 1]) rfl ?_
    refine lv_if_ne (tgt := 21) hx hb dX10_end_16 (by decide) (fun _ => ?_) (fun c_6 => absurd c_6 (by decide))
    refine lv_aload_n hx hb dX10_end_21 rfl (lv_at hl 0 rfl) ?_
    refine lv_iload_n hx hb dX10_end_22 rfl (lv_at hl 1 rfl) ?_
    refine t_puti (x := v0) cf_11 hx hb hts hown hK hT hS h_a (k := 6) rfl (show 0 ≤ v0.toInt ∧ v0.toInt ≤ 1600 from ⟨by omega, by omega⟩) fl_X10_128 (fun _ h9 => h9) rfl rfl rfl dX10_end_23 (fun H locs G_7 eG_7 hT hS => ?_)
    have hF := hF.wI eG_7 h_a rfl
    refine lv_iload_n hx hb dX10_end_26 rfl (lv_at hl 1 rfl) ?_
    exact ret_i hx hb hr hlocks ⟨⟨hS.1, hS.2.1⟩, G_7, hF, ⟨_, rfl, trivial⟩, hT⟩ hS.2.2 (Nat.le_of_ble_eq_true rfl) (Nat.le_of_ble_eq_true rfl) dX10_end_27
  · skip
    have er_5 := hr_5_1
    subst er_5
    refine W.eq (g2 := F0 m 16 ls [.int 0]) rfl ?_
    refine lv_if_ne (tgt := 21) hx hb dX10_end_16 (by decide) (fun c_8 => absurd rfl c_8) (fun _ => ?_)
    refine lv_iconst (v := (-1)) hx hb dX10_end_19 (by decide) ?_
    exact ret_i hx hb hr hlocks ⟨⟨hS.1, hS.2.1⟩, G_1, hF, ⟨_, rfl, trivial⟩, hT⟩ hS.2.2 (Nat.le_of_ble_eq_true rfl) (Nat.le_of_ble_eq_true rfl) dX10_end_20
