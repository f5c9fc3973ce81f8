theorem dX8_whole_0 : decode cX8_whole 0 = .ok (.iload_n 1, 1) := by decide +kernel
theorem dX8_whole_1 : decode cX8_whole 1 = .ok (.ifCond .lt 23, 3) := by decide +kernel
theorem dX8_whole_24 : decode cX8_whole 24 = .ok (.iconst 0, 1) := by decide +kernel
theorem dX8_whole_25 : decode cX8_whole 25 = .ok (.istore_n 3, 1) := by decide +kernel
theorem dX8_whole_26 : decode cX8_whole 26 = .ok (.iload_n 3, 1) := by decide +kernel
theorem dX8_whole_27 : decode cX8_whole 27 = .ok (.ifCond .eq 18, 3) := by decide +kernel
theorem dX8_whole_45 : decode cX8_whole 45 = .ok (.lconst 0, 1) := by decide +kernel
theorem dX8_whole_46 : decode cX8_whole 46 = .ok (.lreturn, 1) := by decide +kernel
theorem dX8_whole_4 : decode cX8_whole 4 = .ok (.iload_n 1, 1) := by decide +kernel
theorem dX8_whole_5 : decode cX8_whole 5 = .ok (.iconst 3, 1) := by decide +kernel
theorem dX8_whole_6 : decode cX8_whole 6 = .ok (.if_icmp .ge 18, 3) := by decide +kernel
theorem dX8_whole_9 : decode cX8_whole 9 = .ok (.iload_n 2, 1) := by decide +kernel
theorem dX8_whole_10 : decode cX8_whole 10 = .ok (.ifCond .lt 14, 3) := by decide +kernel
theorem dX8_whole_13 : decode cX8_whole 13 = .ok (.iload_n 2, 1) := by decide +kernel
theorem dX8_whole_14 : decode cX8_whole 14 = .ok (.sipush 1000, 3) := by decide +kernel
theorem dX8_whole_17 : decode cX8_whole 17 = .ok (.if_icmp .ge 7, 3) := by decide +kernel
theorem dX8_whole_20 : decode cX8_whole 20 = .ok (.iconst 1, 1) := by decide +kernel
theorem dX8_whole_21 : decode cX8_whole 21 = .ok (.goto 4, 3) := by decide +kernel
theorem dX8_whole_30 : decode cX8_whole 30 = .ok (.aload_n 0, 1) := by decide +kernel
theorem dX8_whole_31 : decode cX8_whole 31 = .ok (.getfield 22, 3) := by decide +kernel
theorem dX8_whole_34 : decode cX8_whole 34 = .ok (.iload_n 1, 1) := by decide +kernel
theorem dX8_whole_35 : decode cX8_whole 35 = .ok (.sipush 1000, 3) := by decide +kernel
theorem dX8_whole_38 : decode cX8_whole 38 = .ok (.imul, 1) := by decide +kernel
theorem dX8_whole_39 : decode cX8_whole 39 = .ok (.iload_n 2, 1) := by decide +kernel
theorem dX8_whole_40 : decode cX8_whole 40 = .ok (.iadd, 1) := by decide +kernel
theorem dX8_whole_41 : decode cX8_whole 41 = .ok (.laload, 1) := by decide +kernel
theorem dX8_whole_42 : decode cX8_whole 42 = .ok (.goto 4, 3) := by decide +kernel
theorem dX8_thousandths_0 : decode cX8_thousandths 0 = .ok (.aload_n 0, 1) := by decide +kernel
theorem dX8_thousandths_1 : decode cX8_thousandths 1 = .ok (.iconst 0, 1) := by decide +kernel
theorem dX8_thousandths_2 : decode cX8_thousandths 2 = .ok (.iload_n 1, 1) := by decide +kernel
theorem dX8_thousandths_3 : decode cX8_thousandths 3 = .ok (.invokevirtual 29, 3) := by decide +kernel
theorem dX8_thousandths_6 : decode cX8_thousandths 6 = .ok (.ldc2_w 33, 3) := by decide +kernel
theorem dX8_thousandths_9 : decode cX8_thousandths 9 = .ok (.ldiv, 1) := by decide +kernel
theorem dX8_thousandths_10 : decode cX8_thousandths 10 = .ok (.lreturn, 1) := by decide +kernel
theorem dX8_leastSacks_0 : decode cX8_leastSacks 0 = .ok (.iconst 0, 1) := by decide +kernel
theorem dX8_leastSacks_1 : decode cX8_leastSacks 1 = .ok (.istore_n 2, 1) := by decide +kernel
theorem dX8_leastSacks_2 : decode cX8_leastSacks 2 = .ok (.iconst 1, 1) := by decide +kernel
theorem dX8_leastSacks_3 : decode cX8_leastSacks 3 = .ok (.istore_n 3, 1) := by decide +kernel
theorem dX8_leastSacks_4 : decode cX8_leastSacks 4 = .ok (.iload_n 3, 1) := by decide +kernel
theorem dX8_leastSacks_5 : decode cX8_leastSacks 5 = .ok (.sipush 1000, 3) := by decide +kernel
theorem dX8_leastSacks_8 : decode cX8_leastSacks 8 = .ok (.if_icmp .ge 27, 3) := by decide +kernel
theorem dX8_leastSacks_35 : decode cX8_leastSacks 35 = .ok (.iload_n 2, 1) := by decide +kernel
theorem dX8_leastSacks_36 : decode cX8_leastSacks 36 = .ok (.ireturn, 1) := by decide +kernel
theorem dX8_leastSacks_11 : decode cX8_leastSacks 11 = .ok (.aload_n 0, 1) := by decide +kernel
theorem dX8_leastSacks_12 : decode cX8_leastSacks 12 = .ok (.iload_n 1, 1) := by decide +kernel
theorem dX8_leastSacks_13 : decode cX8_leastSacks 13 = .ok (.iload_n 3, 1) := by decide +kernel
theorem dX8_leastSacks_14 : decode cX8_leastSacks 14 = .ok (.invokevirtual 29, 3) := by decide +kernel
theorem dX8_leastSacks_17 : decode cX8_leastSacks 17 = .ok (.aload_n 0, 1) := by decide +kernel
theorem dX8_leastSacks_18 : decode cX8_leastSacks 18 = .ok (.iload_n 1, 1) := by decide +kernel
theorem dX8_leastSacks_19 : decode cX8_leastSacks 19 = .ok (.iload_n 2, 1) := by decide +kernel
theorem dX8_leastSacks_20 : decode cX8_leastSacks 20 = .ok (.invokevirtual 29, 3) := by decide +kernel
theorem dX8_leastSacks_23 : decode cX8_leastSacks 23 = .ok (.lcmp, 1) := by decide +kernel
theorem dX8_leastSacks_24 : decode cX8_leastSacks 24 = .ok (.ifCond .ge 5, 3) := by decide +kernel
theorem dX8_leastSacks_29 : decode cX8_leastSacks 29 = .ok (.iinc 3 1, 3) := by decide +kernel
theorem dX8_leastSacks_32 : decode cX8_leastSacks 32 = .ok (.goto (-28), 3) := by decide +kernel
theorem dX8_leastSacks_27 : decode cX8_leastSacks 27 = .ok (.iload_n 3, 1) := by decide +kernel
theorem dX8_leastSacks_28 : decode cX8_leastSacks 28 = .ok (.istore_n 2, 1) := by decide +kernel
theorem dX8_leastWhole_0 : decode cX8_leastWhole 0 = .ok (.aload_n 0, 1) := by decide +kernel
theorem dX8_leastWhole_1 : decode cX8_leastWhole 1 = .ok (.iload_n 1, 1) := by decide +kernel
theorem dX8_leastWhole_2 : decode cX8_leastWhole 2 = .ok (.aload_n 0, 1) := by decide +kernel
theorem dX8_leastWhole_3 : decode cX8_leastWhole 3 = .ok (.iload_n 1, 1) := by decide +kernel
theorem dX8_leastWhole_4 : decode cX8_leastWhole 4 = .ok (.invokevirtual 35, 3) := by decide +kernel
theorem dX8_leastWhole_7 : decode cX8_leastWhole 7 = .ok (.invokevirtual 29, 3) := by decide +kernel
theorem dX8_leastWhole_10 : decode cX8_leastWhole 10 = .ok (.lreturn, 1) := by decide +kernel
theorem dX8_partsWanting_0 : decode cX8_partsWanting 0 = .ok (.iload_n 1, 1) := by decide +kernel
theorem dX8_partsWanting_1 : decode cX8_partsWanting 1 = .ok (.ifCond .lt 19, 3) := by decide +kernel
theorem dX8_partsWanting_20 : decode cX8_partsWanting 20 = .ok (.lconst 0, 1) := by decide +kernel
theorem dX8_partsWanting_21 : decode cX8_partsWanting 21 = .ok (.lreturn, 1) := by decide +kernel
theorem dX8_partsWanting_4 : decode cX8_partsWanting 4 = .ok (.iload_n 1, 1) := by decide +kernel
theorem dX8_partsWanting_5 : decode cX8_partsWanting 5 = .ok (.sipush 1080, 3) := by decide +kernel
theorem dX8_partsWanting_8 : decode cX8_partsWanting 8 = .ok (.if_icmp .gt 12, 3) := by decide +kernel
theorem dX8_partsWanting_11 : decode cX8_partsWanting 11 = .ok (.aload_n 0, 1) := by decide +kernel
theorem dX8_partsWanting_12 : decode cX8_partsWanting 12 = .ok (.getfield 18, 3) := by decide +kernel
theorem dX8_partsWanting_15 : decode cX8_partsWanting 15 = .ok (.iload_n 1, 1) := by decide +kernel
theorem dX8_partsWanting_16 : decode cX8_partsWanting 16 = .ok (.laload, 1) := by decide +kernel
theorem dX8_partsWanting_17 : decode cX8_partsWanting 17 = .ok (.goto 4, 3) := by decide +kernel
theorem dX8_enough_0 : decode cX8_enough 0 = .ok (.lconst 0, 1) := by decide +kernel
theorem dX8_enough_1 : decode cX8_enough 1 = .ok (.lstore_n 2, 1) := by decide +kernel
theorem dX8_enough_2 : decode cX8_enough 2 = .ok (.iconst 0, 1) := by decide +kernel
theorem dX8_enough_3 : decode cX8_enough 3 = .ok (.istore 4, 2) := by decide +kernel
theorem dX8_enough_5 : decode cX8_enough 5 = .ok (.iload 4, 2) := by decide +kernel
theorem dX8_enough_7 : decode cX8_enough 7 = .ok (.iload_n 1, 1) := by decide +kernel
theorem dX8_enough_8 : decode cX8_enough 8 = .ok (.if_icmp .gt 18, 3) := by decide +kernel
theorem dX8_enough_26 : decode cX8_enough 26 = .ok (.lload_n 2, 1) := by decide +kernel
theorem dX8_enough_27 : decode cX8_enough 27 = .ok (.lreturn, 1) := by decide +kernel
theorem dX8_enough_11 : decode cX8_enough 11 = .ok (.lload_n 2, 1) := by decide +kernel
theorem dX8_enough_12 : decode cX8_enough 12 = .ok (.aload_n 0, 1) := by decide +kernel
theorem dX8_enough_13 : decode cX8_enough 13 = .ok (.iload 4, 2) := by decide +kernel
theorem dX8_enough_15 : decode cX8_enough 15 = .ok (.invokevirtual 39, 3) := by decide +kernel
theorem dX8_enough_18 : decode cX8_enough 18 = .ok (.ladd, 1) := by decide +kernel
theorem dX8_enough_19 : decode cX8_enough 19 = .ok (.lstore_n 2, 1) := by decide +kernel
theorem dX8_enough_20 : decode cX8_enough 20 = .ok (.iinc 4 1, 3) := by decide +kernel
theorem dX8_enough_23 : decode cX8_enough 23 = .ok (.goto (-18), 3) := by decide +kernel
theorem dX8_packedSacks_0 : decode cX8_packedSacks 0 = .ok (.iload_n 1, 1) := by decide +kernel
theorem dX8_packedSacks_1 : decode cX8_packedSacks 1 = .ok (.ifCond .lt 17, 3) := by decide +kernel
theorem dX8_packedSacks_18 : decode cX8_packedSacks 18 = .ok (.iconst 0, 1) := by decide +kernel
theorem dX8_packedSacks_19 : decode cX8_packedSacks 19 = .ok (.ireturn, 1) := by decide +kernel
theorem dX8_packedSacks_4 : decode cX8_packedSacks 4 = .ok (.iload_n 1, 1) := by decide +kernel
theorem dX8_packedSacks_5 : decode cX8_packedSacks 5 = .ok (.iconst 3, 1) := by decide +kernel
theorem dX8_packedSacks_6 : decode cX8_packedSacks 6 = .ok (.if_icmp .ge 12, 3) := by decide +kernel
theorem dX8_packedSacks_9 : decode cX8_packedSacks 9 = .ok (.aload_n 0, 1) := by decide +kernel
theorem dX8_packedSacks_10 : decode cX8_packedSacks 10 = .ok (.getfield 25, 3) := by decide +kernel
theorem dX8_packedSacks_13 : decode cX8_packedSacks 13 = .ok (.iload_n 1, 1) := by decide +kernel
theorem dX8_packedSacks_14 : decode cX8_packedSacks 14 = .ok (.iaload, 1) := by decide +kernel
theorem dX8_packedSacks_15 : decode cX8_packedSacks 15 = .ok (.goto 4, 3) := by decide +kernel
theorem dX8_forget_0 : decode cX8_forget 0 = .ok (.aload_n 0, 1) := by decide +kernel
theorem dX8_forget_1 : decode cX8_forget 1 = .ok (.getfield 18, 3) := by decide +kernel
theorem dX8_forget_4 : decode cX8_forget 4 = .ok (.lconst 0, 1) := by decide +kernel
theorem dX8_forget_5 : decode cX8_forget 5 = .ok (.invokestatic 92, 3) := by decide +kernel
theorem dX8_forget_8 : decode cX8_forget 8 = .ok (.aload_n 0, 1) := by decide +kernel
theorem dX8_forget_9 : decode cX8_forget 9 = .ok (.iconst 0, 1) := by decide +kernel
theorem dX8_forget_10 : decode cX8_forget 10 = .ok (.putfield 98, 3) := by decide +kernel
theorem dX8_forget_13 : decode cX8_forget 13 = .ok (.return_, 1) := by decide +kernel
theorem dX8_gather_0 : decode cX8_gather 0 = .ok (.iload_n 1, 1) := by decide +kernel
theorem dX8_gather_1 : decode cX8_gather 1 = .ok (.ifCond .lt 32, 3) := by decide +kernel
theorem dX8_gather_33 : decode cX8_gather 33 = .ok (.return_, 1) := by decide +kernel
theorem dX8_gather_4 : decode cX8_gather 4 = .ok (.iload_n 1, 1) := by decide +kernel
theorem dX8_gather_5 : decode cX8_gather 5 = .ok (.sipush 1080, 3) := by decide +kernel
theorem dX8_gather_8 : decode cX8_gather 8 = .ok (.if_icmp .gt 25, 3) := by decide +kernel
theorem dX8_gather_11 : decode cX8_gather 11 = .ok (.aload_n 0, 1) := by decide +kernel
theorem dX8_gather_12 : decode cX8_gather 12 = .ok (.getfield 18, 3) := by decide +kernel
theorem dX8_gather_15 : decode cX8_gather 15 = .ok (.iload_n 1, 1) := by decide +kernel
theorem dX8_gather_16 : decode cX8_gather 16 = .ok (.dup2, 1) := by decide +kernel
theorem dX8_gather_17 : decode cX8_gather 17 = .ok (.laload, 1) := by decide +kernel
theorem dX8_gather_18 : decode cX8_gather 18 = .ok (.lload_n 2, 1) := by decide +kernel
theorem dX8_gather_19 : decode cX8_gather 19 = .ok (.ladd, 1) := by decide +kernel
theorem dX8_gather_20 : decode cX8_gather 20 = .ok (.lastore, 1) := by decide +kernel
theorem dX8_gather_21 : decode cX8_gather 21 = .ok (.aload_n 0, 1) := by decide +kernel
theorem dX8_gather_22 : decode cX8_gather 22 = .ok (.aload_n 0, 1) := by decide +kernel
theorem dX8_gather_23 : decode cX8_gather 23 = .ok (.getfield 98, 3) := by decide +kernel
theorem dX8_gather_26 : decode cX8_gather 26 = .ok (.iload_n 1, 1) := by decide +kernel
theorem dX8_gather_27 : decode cX8_gather 27 = .ok (.invokestatic 101, 3) := by decide +kernel
theorem dX8_gather_30 : decode cX8_gather 30 = .ok (.putfield 98, 3) := by decide +kernel
theorem dX8_gatherAlone_0 : decode cX8_gatherAlone 0 = .ok (.aload_n 0, 1) := by decide +kernel
theorem dX8_gatherAlone_1 : decode cX8_gatherAlone 1 = .ok (.getfield 12, 3) := by decide +kernel
theorem dX8_gatherAlone_4 : decode cX8_gatherAlone 4 = .ok (.aload_n 1, 1) := by decide +kernel
theorem dX8_gatherAlone_5 : decode cX8_gatherAlone 5 = .ok (.iload_n 2, 1) := by decide +kernel
theorem dX8_gatherAlone_6 : decode cX8_gatherAlone 6 = .ok (.invokevirtual 85, 3) := by decide +kernel
theorem dX8_gatherAlone_9 : decode cX8_gatherAlone 9 = .ok (.aload_n 0, 1) := by decide +kernel
theorem dX8_gatherAlone_10 : decode cX8_gatherAlone 10 = .ok (.invokevirtual 54, 3) := by decide +kernel
theorem dX8_gatherAlone_13 : decode cX8_gatherAlone 13 = .ok (.iconst 0, 1) := by decide +kernel
theorem dX8_gatherAlone_14 : decode cX8_gatherAlone 14 = .ok (.istore 4, 2) := by decide +kernel
theorem dX8_gatherAlone_16 : decode cX8_gatherAlone 16 = .ok (.iload 4, 2) := by decide +kernel
theorem dX8_gatherAlone_18 : decode cX8_gatherAlone 18 = .ok (.aload_n 1, 1) := by decide +kernel
theorem dX8_gatherAlone_19 : decode cX8_gatherAlone 19 = .ok (.getfield 57, 3) := by decide +kernel
theorem dX8_gatherAlone_22 : decode cX8_gatherAlone 22 = .ok (.if_icmp .gt 30, 3) := by decide +kernel
theorem dX8_gatherAlone_52 : decode cX8_gatherAlone 52 = .ok (.return_, 1) := by decide +kernel
theorem dX8_gatherAlone_25 : decode cX8_gatherAlone 25 = .ok (.aload_n 0, 1) := by decide +kernel
theorem dX8_gatherAlone_26 : decode cX8_gatherAlone 26 = .ok (.aload_n 1, 1) := by decide +kernel
theorem dX8_gatherAlone_27 : decode cX8_gatherAlone 27 = .ok (.iload_n 2, 1) := by decide +kernel
theorem dX8_gatherAlone_28 : decode cX8_gatherAlone 28 = .ok (.iload_n 3, 1) := by decide +kernel
theorem dX8_gatherAlone_29 : decode cX8_gatherAlone 29 = .ok (.iload 4, 2) := by decide +kernel
theorem dX8_gatherAlone_31 : decode cX8_gatherAlone 31 = .ok (.invokevirtual 63, 3) := by decide +kernel
theorem dX8_gatherAlone_34 : decode cX8_gatherAlone 34 = .ok (.aload_n 0, 1) := by decide +kernel
theorem dX8_gatherAlone_35 : decode cX8_gatherAlone 35 = .ok (.getfield 12, 3) := by decide +kernel
theorem dX8_gatherAlone_38 : decode cX8_gatherAlone 38 = .ok (.iload 4, 2) := by decide +kernel
theorem dX8_gatherAlone_40 : decode cX8_gatherAlone 40 = .ok (.invokevirtual 89, 3) := by decide +kernel
theorem dX8_gatherAlone_43 : decode cX8_gatherAlone 43 = .ok (.invokevirtual 70, 3) := by decide +kernel
theorem dX8_gatherAlone_46 : decode cX8_gatherAlone 46 = .ok (.iinc 4 1, 3) := by decide +kernel
theorem dX8_gatherAlone_49 : decode cX8_gatherAlone 49 = .ok (.goto (-33), 3) := by decide +kernel
theorem dX8_lossWhole_0 : decode cX8_lossWhole 0 = .ok (.iload_n 3, 1) := by decide +kernel
theorem dX8_lossWhole_1 : decode cX8_lossWhole 1 = .ok (.sipush 999, 3) := by decide +kernel
theorem dX8_lossWhole_4 : decode cX8_lossWhole 4 = .ok (.invokestatic 125, 3) := by decide +kernel
theorem dX8_lossWhole_7 : decode cX8_lossWhole 7 = .ok (.istore 4, 2) := by decide +kernel
theorem dX8_lossWhole_9 : decode cX8_lossWhole 9 = .ok (.lconst 0, 1) := by decide +kernel
theorem dX8_lossWhole_10 : decode cX8_lossWhole 10 = .ok (.lstore 5, 2) := by decide +kernel
theorem dX8_lossWhole_12 : decode cX8_lossWhole 12 = .ok (.iload 4, 2) := by decide +kernel
theorem dX8_lossWhole_14 : decode cX8_lossWhole 14 = .ok (.iconst 1, 1) := by decide +kernel
theorem dX8_lossWhole_15 : decode cX8_lossWhole 15 = .ok (.iadd, 1) := by decide +kernel
theorem dX8_lossWhole_16 : decode cX8_lossWhole 16 = .ok (.istore 7, 2) := by decide +kernel
theorem dX8_lossWhole_18 : decode cX8_lossWhole 18 = .ok (.iload 7, 2) := by decide +kernel
theorem dX8_lossWhole_20 : decode cX8_lossWhole 20 = .ok (.aload_n 0, 1) := by decide +kernel
theorem dX8_lossWhole_21 : decode cX8_lossWhole 21 = .ok (.getfield 98, 3) := by decide +kernel
theorem dX8_lossWhole_24 : decode cX8_lossWhole 24 = .ok (.if_icmp .gt 28, 3) := by decide +kernel
theorem dX8_lossWhole_52 : decode cX8_lossWhole 52 = .ok (.aload_n 1, 1) := by decide +kernel
theorem dX8_lossWhole_53 : decode cX8_lossWhole 53 = .ok (.iload_n 2, 1) := by decide +kernel
theorem dX8_lossWhole_54 : decode cX8_lossWhole 54 = .ok (.invokevirtual 106, 3) := by decide +kernel
theorem dX8_lossWhole_57 : decode cX8_lossWhole 57 = .ok (.ifCond .eq 16, 3) := by decide +kernel
theorem dX8_lossWhole_60 : decode cX8_lossWhole 60 = .ok (.lload 5, 2) := by decide +kernel
theorem dX8_lossWhole_62 : decode cX8_lossWhole 62 = .ok (.aload_n 1, 1) := by decide +kernel
theorem dX8_lossWhole_63 : decode cX8_lossWhole 63 = .ok (.getfield 122, 3) := by decide +kernel
theorem dX8_lossWhole_66 : decode cX8_lossWhole 66 = .ok (.iload_n 2, 1) := by decide +kernel
theorem dX8_lossWhole_67 : decode cX8_lossWhole 67 = .ok (.iaload, 1) := by decide +kernel
theorem dX8_lossWhole_68 : decode cX8_lossWhole 68 = .ok (.i2l, 1) := by decide +kernel
theorem dX8_lossWhole_69 : decode cX8_lossWhole 69 = .ok (.lmul, 1) := by decide +kernel
theorem dX8_lossWhole_70 : decode cX8_lossWhole 70 = .ok (.goto 4, 3) := by decide +kernel
theorem dX8_lossWhole_74 : decode cX8_lossWhole 74 = .ok (.lreturn, 1) := by decide +kernel
theorem dX8_lossWhole_73 : decode cX8_lossWhole 73 = .ok (.lconst 0, 1) := by decide +kernel
theorem dX8_lossWhole_27 : decode cX8_lossWhole 27 = .ok (.lload 5, 2) := by decide +kernel
theorem dX8_lossWhole_29 : decode cX8_lossWhole 29 = .ok (.aload_n 0, 1) := by decide +kernel
theorem dX8_lossWhole_30 : decode cX8_lossWhole 30 = .ok (.getfield 18, 3) := by decide +kernel
theorem dX8_lossWhole_33 : decode cX8_lossWhole 33 = .ok (.iload 7, 2) := by decide +kernel
theorem dX8_lossWhole_35 : decode cX8_lossWhole 35 = .ok (.laload, 1) := by decide +kernel
theorem dX8_lossWhole_36 : decode cX8_lossWhole 36 = .ok (.iload 7, 2) := by decide +kernel
theorem dX8_lossWhole_38 : decode cX8_lossWhole 38 = .ok (.iload 4, 2) := by decide +kernel
theorem dX8_lossWhole_40 : decode cX8_lossWhole 40 = .ok (.isub, 1) := by decide +kernel
theorem dX8_lossWhole_41 : decode cX8_lossWhole 41 = .ok (.i2l, 1) := by decide +kernel
theorem dX8_lossWhole_42 : decode cX8_lossWhole 42 = .ok (.lmul, 1) := by decide +kernel
theorem dX8_lossWhole_43 : decode cX8_lossWhole 43 = .ok (.ladd, 1) := by decide +kernel
theorem dX8_lossWhole_44 : decode cX8_lossWhole 44 = .ok (.lstore 5, 2) := by decide +kernel
theorem dX8_lossWhole_46 : decode cX8_lossWhole 46 = .ok (.iinc 7 1, 3) := by decide +kernel
theorem dX8_lossWhole_49 : decode cX8_lossWhole 49 = .ok (.goto (-31), 3) := by decide +kernel
theorem dX8_sumUp_0 : decode cX8_sumUp 0 = .ok (.aload_n 1, 1) := by decide +kernel
theorem dX8_sumUp_1 : decode cX8_sumUp 1 = .ok (.iload_n 2, 1) := by decide +kernel
theorem dX8_sumUp_2 : decode cX8_sumUp 2 = .ok (.invokevirtual 106, 3) := by decide +kernel
theorem dX8_sumUp_5 : decode cX8_sumUp 5 = .ok (.ifCond .eq 12, 3) := by decide +kernel
theorem dX8_sumUp_8 : decode cX8_sumUp 8 = .ok (.iload_n 3, 1) := by decide +kernel
theorem dX8_sumUp_9 : decode cX8_sumUp 9 = .ok (.ifCond .lt 8, 3) := by decide +kernel
theorem dX8_sumUp_17 : decode cX8_sumUp 17 = .ok (.return_, 1) := by decide +kernel
theorem dX8_sumUp_12 : decode cX8_sumUp 12 = .ok (.iload_n 3, 1) := by decide +kernel
theorem dX8_sumUp_13 : decode cX8_sumUp 13 = .ok (.iconst 3, 1) := by decide +kernel
theorem dX8_sumUp_14 : decode cX8_sumUp 14 = .ok (.if_icmp .lt 4, 3) := by decide +kernel
theorem dX8_sumUp_18 : decode cX8_sumUp 18 = .ok (.aload_n 0, 1) := by decide +kernel
theorem dX8_sumUp_19 : decode cX8_sumUp 19 = .ok (.aload_n 1, 1) := by decide +kernel
theorem dX8_sumUp_20 : decode cX8_sumUp 20 = .ok (.iload_n 2, 1) := by decide +kernel
theorem dX8_sumUp_21 : decode cX8_sumUp 21 = .ok (.iconst 0, 1) := by decide +kernel
theorem dX8_sumUp_22 : decode cX8_sumUp 22 = .ok (.invokevirtual 110, 3) := by decide +kernel
theorem dX8_sumUp_25 : decode cX8_sumUp 25 = .ok (.lstore 5, 2) := by decide +kernel
theorem dX8_sumUp_27 : decode cX8_sumUp 27 = .ok (.lconst 0, 1) := by decide +kernel
theorem dX8_sumUp_28 : decode cX8_sumUp 28 = .ok (.lstore 7, 2) := by decide +kernel
theorem dX8_sumUp_30 : decode cX8_sumUp 30 = .ok (.iconst 0, 1) := by decide +kernel
theorem dX8_sumUp_31 : decode cX8_sumUp 31 = .ok (.istore 9, 2) := by decide +kernel
theorem dX8_sumUp_33 : decode cX8_sumUp 33 = .ok (.iload 9, 2) := by decide +kernel
theorem dX8_sumUp_35 : decode cX8_sumUp 35 = .ok (.sipush 1000, 3) := by decide +kernel
theorem dX8_sumUp_38 : decode cX8_sumUp 38 = .ok (.if_icmp .ge 80, 3) := by decide +kernel
theorem dX8_sumUp_118 : decode cX8_sumUp 118 = .ok (.return_, 1) := by decide +kernel
theorem dX8_sumUp_41 : decode cX8_sumUp 41 = .ok (.aload_n 0, 1) := by decide +kernel
theorem dX8_sumUp_42 : decode cX8_sumUp 42 = .ok (.getfield 22, 3) := by decide +kernel
theorem dX8_sumUp_45 : decode cX8_sumUp 45 = .ok (.iload_n 3, 1) := by decide +kernel
theorem dX8_sumUp_46 : decode cX8_sumUp 46 = .ok (.sipush 1000, 3) := by decide +kernel
theorem dX8_sumUp_49 : decode cX8_sumUp 49 = .ok (.imul, 1) := by decide +kernel
theorem dX8_sumUp_50 : decode cX8_sumUp 50 = .ok (.iload 9, 2) := by decide +kernel
theorem dX8_sumUp_52 : decode cX8_sumUp 52 = .ok (.iadd, 1) := by decide +kernel
theorem dX8_sumUp_53 : decode cX8_sumUp 53 = .ok (.lload 5, 2) := by decide +kernel
theorem dX8_sumUp_55 : decode cX8_sumUp 55 = .ok (.lastore, 1) := by decide +kernel
theorem dX8_sumUp_56 : decode cX8_sumUp 56 = .ok (.lload 7, 2) := by decide +kernel
theorem dX8_sumUp_58 : decode cX8_sumUp 58 = .ok (.aload_n 0, 1) := by decide +kernel
theorem dX8_sumUp_59 : decode cX8_sumUp 59 = .ok (.iload 9, 2) := by decide +kernel
theorem dX8_sumUp_61 : decode cX8_sumUp 61 = .ok (.invokevirtual 39, 3) := by decide +kernel
theorem dX8_sumUp_64 : decode cX8_sumUp 64 = .ok (.ladd, 1) := by decide +kernel
theorem dX8_sumUp_65 : decode cX8_sumUp 65 = .ok (.lstore 7, 2) := by decide +kernel
theorem dX8_sumUp_67 : decode cX8_sumUp 67 = .ok (.lload 5, 2) := by decide +kernel
theorem dX8_sumUp_69 : decode cX8_sumUp 69 = .ok (.aload_n 1, 1) := by decide +kernel
theorem dX8_sumUp_70 : decode cX8_sumUp 70 = .ok (.getfield 114, 3) := by decide +kernel
theorem dX8_sumUp_73 : decode cX8_sumUp 73 = .ok (.iload_n 2, 1) := by decide +kernel
theorem dX8_sumUp_74 : decode cX8_sumUp 74 = .ok (.iaload, 1) := by decide +kernel
theorem dX8_sumUp_75 : decode cX8_sumUp 75 = .ok (.i2l, 1) := by decide +kernel
theorem dX8_sumUp_76 : decode cX8_sumUp 76 = .ok (.ldc2_w 117, 3) := by decide +kernel
theorem dX8_sumUp_79 : decode cX8_sumUp 79 = .ok (.lmul, 1) := by decide +kernel
theorem dX8_sumUp_80 : decode cX8_sumUp 80 = .ok (.aload_n 1, 1) := by decide +kernel
theorem dX8_sumUp_81 : decode cX8_sumUp 81 = .ok (.getfield 119, 3) := by decide +kernel
theorem dX8_sumUp_84 : decode cX8_sumUp 84 = .ok (.iload_n 2, 1) := by decide +kernel
theorem dX8_sumUp_85 : decode cX8_sumUp 85 = .ok (.iaload, 1) := by decide +kernel
theorem dX8_sumUp_86 : decode cX8_sumUp 86 = .ok (.i2l, 1) := by decide +kernel
theorem dX8_sumUp_87 : decode cX8_sumUp 87 = .ok (.lload 7, 2) := by decide +kernel
theorem dX8_sumUp_89 : decode cX8_sumUp 89 = .ok (.lmul, 1) := by decide +kernel
theorem dX8_sumUp_90 : decode cX8_sumUp 90 = .ok (.ladd, 1) := by decide +kernel
theorem dX8_sumUp_91 : decode cX8_sumUp 91 = .ok (.iload 4, 2) := by decide +kernel
theorem dX8_sumUp_93 : decode cX8_sumUp 93 = .ok (.aload_n 1, 1) := by decide +kernel
theorem dX8_sumUp_94 : decode cX8_sumUp 94 = .ok (.getfield 122, 3) := by decide +kernel
theorem dX8_sumUp_97 : decode cX8_sumUp 97 = .ok (.iload_n 2, 1) := by decide +kernel
theorem dX8_sumUp_98 : decode cX8_sumUp 98 = .ok (.iaload, 1) := by decide +kernel
theorem dX8_sumUp_99 : decode cX8_sumUp 99 = .ok (.isub, 1) := by decide +kernel
theorem dX8_sumUp_100 : decode cX8_sumUp 100 = .ok (.i2l, 1) := by decide +kernel
theorem dX8_sumUp_101 : decode cX8_sumUp 101 = .ok (.ldc2_w 117, 3) := by decide +kernel
theorem dX8_sumUp_104 : decode cX8_sumUp 104 = .ok (.lload 7, 2) := by decide +kernel
theorem dX8_sumUp_106 : decode cX8_sumUp 106 = .ok (.lsub, 1) := by decide +kernel
theorem dX8_sumUp_107 : decode cX8_sumUp 107 = .ok (.lmul, 1) := by decide +kernel
theorem dX8_sumUp_108 : decode cX8_sumUp 108 = .ok (.ladd, 1) := by decide +kernel
theorem dX8_sumUp_109 : decode cX8_sumUp 109 = .ok (.ladd, 1) := by decide +kernel
theorem dX8_sumUp_110 : decode cX8_sumUp 110 = .ok (.lstore 5, 2) := by decide +kernel
theorem dX8_sumUp_112 : decode cX8_sumUp 112 = .ok (.iinc 9 1, 3) := by decide +kernel
theorem dX8_sumUp_115 : decode cX8_sumUp 115 = .ok (.goto (-82), 3) := by decide +kernel
theorem dX8_layAlone_0 : decode cX8_layAlone 0 = .ok (.aload_n 0, 1) := by decide +kernel
theorem dX8_layAlone_1 : decode cX8_layAlone 1 = .ok (.aload_n 1, 1) := by decide +kernel
theorem dX8_layAlone_2 : decode cX8_layAlone 2 = .ok (.iload_n 2, 1) := by decide +kernel
theorem dX8_layAlone_3 : decode cX8_layAlone 3 = .ok (.iload_n 3, 1) := by decide +kernel
theorem dX8_layAlone_4 : decode cX8_layAlone 4 = .ok (.invokevirtual 43, 3) := by decide +kernel
theorem dX8_layAlone_7 : decode cX8_layAlone 7 = .ok (.aload_n 0, 1) := by decide +kernel
theorem dX8_layAlone_8 : decode cX8_layAlone 8 = .ok (.aload_n 1, 1) := by decide +kernel
theorem dX8_layAlone_9 : decode cX8_layAlone 9 = .ok (.iload_n 3, 1) := by decide +kernel
theorem dX8_layAlone_10 : decode cX8_layAlone 10 = .ok (.iconst 0, 1) := by decide +kernel
theorem dX8_layAlone_11 : decode cX8_layAlone 11 = .ok (.iconst 0, 1) := by decide +kernel
theorem dX8_layAlone_12 : decode cX8_layAlone 12 = .ok (.invokevirtual 47, 3) := by decide +kernel
theorem dX8_layAlone_15 : decode cX8_layAlone 15 = .ok (.return_, 1) := by decide +kernel
theorem dX8_layFork_0 : decode cX8_layFork 0 = .ok (.aload_n 0, 1) := by decide +kernel
theorem dX8_layFork_1 : decode cX8_layFork 1 = .ok (.getfield 12, 3) := by decide +kernel
theorem dX8_layFork_4 : decode cX8_layFork 4 = .ok (.aload_n 1, 1) := by decide +kernel
theorem dX8_layFork_5 : decode cX8_layFork 5 = .ok (.iload_n 2, 1) := by decide +kernel
theorem dX8_layFork_6 : decode cX8_layFork 6 = .ok (.iload_n 3, 1) := by decide +kernel
theorem dX8_layFork_7 : decode cX8_layFork 7 = .ok (.invokevirtual 51, 3) := by decide +kernel
theorem dX8_layFork_10 : decode cX8_layFork 10 = .ok (.aload_n 0, 1) := by decide +kernel
theorem dX8_layFork_11 : decode cX8_layFork 11 = .ok (.invokevirtual 54, 3) := by decide +kernel
theorem dX8_layFork_14 : decode cX8_layFork 14 = .ok (.iconst 0, 1) := by decide +kernel
theorem dX8_layFork_15 : decode cX8_layFork 15 = .ok (.istore 5, 2) := by decide +kernel
theorem dX8_layFork_17 : decode cX8_layFork 17 = .ok (.iload 5, 2) := by decide +kernel
theorem dX8_layFork_19 : decode cX8_layFork 19 = .ok (.aload_n 1, 1) := by decide +kernel
theorem dX8_layFork_20 : decode cX8_layFork 20 = .ok (.getfield 57, 3) := by decide +kernel
theorem dX8_layFork_23 : decode cX8_layFork 23 = .ok (.if_icmp .gt 65, 3) := by decide +kernel
theorem dX8_layFork_88 : decode cX8_layFork 88 = .ok (.aload_n 0, 1) := by decide +kernel
theorem dX8_layFork_89 : decode cX8_layFork 89 = .ok (.aload_n 1, 1) := by decide +kernel
theorem dX8_layFork_90 : decode cX8_layFork 90 = .ok (.iload 4, 2) := by decide +kernel
theorem dX8_layFork_92 : decode cX8_layFork 92 = .ok (.iconst 0, 1) := by decide +kernel
theorem dX8_layFork_93 : decode cX8_layFork 93 = .ok (.aload_n 1, 1) := by decide +kernel
theorem dX8_layFork_94 : decode cX8_layFork 94 = .ok (.getfield 74, 3) := by decide +kernel
theorem dX8_layFork_97 : decode cX8_layFork 97 = .ok (.invokevirtual 47, 3) := by decide +kernel
theorem dX8_layFork_100 : decode cX8_layFork 100 = .ok (.return_, 1) := by decide +kernel
theorem dX8_layFork_26 : decode cX8_layFork 26 = .ok (.iconst 0, 1) := by decide +kernel
theorem dX8_layFork_27 : decode cX8_layFork 27 = .ok (.istore 6, 2) := by decide +kernel
theorem dX8_layFork_29 : decode cX8_layFork 29 = .ok (.iload 6, 2) := by decide +kernel
theorem dX8_layFork_31 : decode cX8_layFork 31 = .ok (.aload_n 1, 1) := by decide +kernel
theorem dX8_layFork_32 : decode cX8_layFork 32 = .ok (.getfield 57, 3) := by decide +kernel
theorem dX8_layFork_35 : decode cX8_layFork 35 = .ok (.if_icmp .gt 47, 3) := by decide +kernel
theorem dX8_layFork_82 : decode cX8_layFork 82 = .ok (.iinc 5 1, 3) := by decide +kernel
theorem dX8_layFork_85 : decode cX8_layFork 85 = .ok (.goto (-68), 3) := by decide +kernel
theorem dX8_layFork_38 : decode cX8_layFork 38 = .ok (.aload_n 1, 1) := by decide +kernel
theorem dX8_layFork_39 : decode cX8_layFork 39 = .ok (.iload_n 2, 1) := by decide +kernel
theorem dX8_layFork_40 : decode cX8_layFork 40 = .ok (.iload 4, 2) := by decide +kernel
theorem dX8_layFork_42 : decode cX8_layFork 42 = .ok (.iload 5, 2) := by decide +kernel
theorem dX8_layFork_44 : decode cX8_layFork 44 = .ok (.invokevirtual 63, 3) := by decide +kernel
theorem dX8_layFork_47 : decode cX8_layFork 47 = .ok (.aload_n 1, 1) := by decide +kernel
theorem dX8_layFork_48 : decode cX8_layFork 48 = .ok (.iload_n 3, 1) := by decide +kernel
theorem dX8_layFork_49 : decode cX8_layFork 49 = .ok (.iload 4, 2) := by decide +kernel
theorem dX8_layFork_51 : decode cX8_layFork 51 = .ok (.iload 6, 2) := by decide +kernel
theorem dX8_layFork_53 : decode cX8_layFork 53 = .ok (.invokevirtual 63, 3) := by decide +kernel
theorem dX8_layFork_56 : decode cX8_layFork 56 = .ok (.iadd, 1) := by decide +kernel
theorem dX8_layFork_57 : decode cX8_layFork 57 = .ok (.istore 7, 2) := by decide +kernel
theorem dX8_layFork_59 : decode cX8_layFork 59 = .ok (.aload_n 0, 1) := by decide +kernel
theorem dX8_layFork_60 : decode cX8_layFork 60 = .ok (.iload 7, 2) := by decide +kernel
theorem dX8_layFork_62 : decode cX8_layFork 62 = .ok (.aload_n 0, 1) := by decide +kernel
theorem dX8_layFork_63 : decode cX8_layFork 63 = .ok (.getfield 12, 3) := by decide +kernel
theorem dX8_layFork_66 : decode cX8_layFork 66 = .ok (.iload 5, 2) := by decide +kernel
theorem dX8_layFork_68 : decode cX8_layFork 68 = .ok (.iload 6, 2) := by decide +kernel
theorem dX8_layFork_70 : decode cX8_layFork 70 = .ok (.invokevirtual 67, 3) := by decide +kernel
theorem dX8_layFork_73 : decode cX8_layFork 73 = .ok (.invokevirtual 70, 3) := by decide +kernel
theorem dX8_layFork_76 : decode cX8_layFork 76 = .ok (.iinc 6 1, 3) := by decide +kernel
theorem dX8_layFork_79 : decode cX8_layFork 79 = .ok (.goto (-50), 3) := by decide +kernel
theorem dX8_layPath_0 : decode cX8_layPath 0 = .ok (.aload_n 0, 1) := by decide +kernel
theorem dX8_layPath_1 : decode cX8_layPath 1 = .ok (.getfield 12, 3) := by decide +kernel
theorem dX8_layPath_4 : decode cX8_layPath 4 = .ok (.aload_n 1, 1) := by decide +kernel
theorem dX8_layPath_5 : decode cX8_layPath 5 = .ok (.iload_n 2, 1) := by decide +kernel
theorem dX8_layPath_6 : decode cX8_layPath 6 = .ok (.iload_n 3, 1) := by decide +kernel
theorem dX8_layPath_7 : decode cX8_layPath 7 = .ok (.invokevirtual 51, 3) := by decide +kernel
theorem dX8_layPath_10 : decode cX8_layPath 10 = .ok (.aload_n 0, 1) := by decide +kernel
theorem dX8_layPath_11 : decode cX8_layPath 11 = .ok (.invokevirtual 54, 3) := by decide +kernel
theorem dX8_layPath_14 : decode cX8_layPath 14 = .ok (.aload_n 1, 1) := by decide +kernel
theorem dX8_layPath_15 : decode cX8_layPath 15 = .ok (.iload_n 2, 1) := by decide +kernel
theorem dX8_layPath_16 : decode cX8_layPath 16 = .ok (.iload 4, 2) := by decide +kernel
theorem dX8_layPath_18 : decode cX8_layPath 18 = .ok (.invokevirtual 77, 3) := by decide +kernel
theorem dX8_layPath_21 : decode cX8_layPath 21 = .ok (.istore 5, 2) := by decide +kernel
theorem dX8_layPath_23 : decode cX8_layPath 23 = .ok (.iconst 0, 1) := by decide +kernel
theorem dX8_layPath_24 : decode cX8_layPath 24 = .ok (.istore 6, 2) := by decide +kernel
theorem dX8_layPath_26 : decode cX8_layPath 26 = .ok (.iload 6, 2) := by decide +kernel
theorem dX8_layPath_28 : decode cX8_layPath 28 = .ok (.aload_n 1, 1) := by decide +kernel
theorem dX8_layPath_29 : decode cX8_layPath 29 = .ok (.getfield 57, 3) := by decide +kernel
theorem dX8_layPath_32 : decode cX8_layPath 32 = .ok (.if_icmp .gt 69, 3) := by decide +kernel
theorem dX8_layPath_101 : decode cX8_layPath 101 = .ok (.aload_n 0, 1) := by decide +kernel
theorem dX8_layPath_102 : decode cX8_layPath 102 = .ok (.aload_n 1, 1) := by decide +kernel
theorem dX8_layPath_103 : decode cX8_layPath 103 = .ok (.iload 4, 2) := by decide +kernel
theorem dX8_layPath_105 : decode cX8_layPath 105 = .ok (.iconst 0, 1) := by decide +kernel
theorem dX8_layPath_106 : decode cX8_layPath 106 = .ok (.iconst 0, 1) := by decide +kernel
theorem dX8_layPath_107 : decode cX8_layPath 107 = .ok (.invokevirtual 47, 3) := by decide +kernel
theorem dX8_layPath_110 : decode cX8_layPath 110 = .ok (.return_, 1) := by decide +kernel
theorem dX8_layPath_35 : decode cX8_layPath 35 = .ok (.iconst 0, 1) := by decide +kernel
theorem dX8_layPath_36 : decode cX8_layPath 36 = .ok (.istore 7, 2) := by decide +kernel
theorem dX8_layPath_38 : decode cX8_layPath 38 = .ok (.iload 7, 2) := by decide +kernel
theorem dX8_layPath_40 : decode cX8_layPath 40 = .ok (.aload_n 1, 1) := by decide +kernel
theorem dX8_layPath_41 : decode cX8_layPath 41 = .ok (.getfield 57, 3) := by decide +kernel
theorem dX8_layPath_44 : decode cX8_layPath 44 = .ok (.if_icmp .gt 51, 3) := by decide +kernel
theorem dX8_layPath_95 : decode cX8_layPath 95 = .ok (.iinc 6 1, 3) := by decide +kernel
theorem dX8_layPath_98 : decode cX8_layPath 98 = .ok (.goto (-72), 3) := by decide +kernel
theorem dX8_layPath_47 : decode cX8_layPath 47 = .ok (.iload 5, 2) := by decide +kernel
theorem dX8_layPath_49 : decode cX8_layPath 49 = .ok (.aload_n 1, 1) := by decide +kernel
theorem dX8_layPath_50 : decode cX8_layPath 50 = .ok (.iload_n 2, 1) := by decide +kernel
theorem dX8_layPath_51 : decode cX8_layPath 51 = .ok (.iload_n 3, 1) := by decide +kernel
theorem dX8_layPath_52 : decode cX8_layPath 52 = .ok (.iload 6, 2) := by decide +kernel
theorem dX8_layPath_54 : decode cX8_layPath 54 = .ok (.iload 7, 2) := by decide +kernel
theorem dX8_layPath_56 : decode cX8_layPath 56 = .ok (.invokevirtual 81, 3) := by decide +kernel
theorem dX8_layPath_59 : decode cX8_layPath 59 = .ok (.imul, 1) := by decide +kernel
theorem dX8_layPath_60 : decode cX8_layPath 60 = .ok (.istore 8, 2) := by decide +kernel
theorem dX8_layPath_62 : decode cX8_layPath 62 = .ok (.aload_n 0, 1) := by decide +kernel
theorem dX8_layPath_63 : decode cX8_layPath 63 = .ok (.aload_n 1, 1) := by decide +kernel
theorem dX8_layPath_64 : decode cX8_layPath 64 = .ok (.iload_n 2, 1) := by decide +kernel
theorem dX8_layPath_65 : decode cX8_layPath 65 = .ok (.iload 4, 2) := by decide +kernel
theorem dX8_layPath_67 : decode cX8_layPath 67 = .ok (.iload 6, 2) := by decide +kernel
theorem dX8_layPath_69 : decode cX8_layPath 69 = .ok (.invokevirtual 63, 3) := by decide +kernel
theorem dX8_layPath_72 : decode cX8_layPath 72 = .ok (.iload 8, 2) := by decide +kernel
theorem dX8_layPath_74 : decode cX8_layPath 74 = .ok (.isub, 1) := by decide +kernel
theorem dX8_layPath_75 : decode cX8_layPath 75 = .ok (.aload_n 0, 1) := by decide +kernel
theorem dX8_layPath_76 : decode cX8_layPath 76 = .ok (.getfield 12, 3) := by decide +kernel
theorem dX8_layPath_79 : decode cX8_layPath 79 = .ok (.iload 6, 2) := by decide +kernel
theorem dX8_layPath_81 : decode cX8_layPath 81 = .ok (.iload 7, 2) := by decide +kernel
theorem dX8_layPath_83 : decode cX8_layPath 83 = .ok (.invokevirtual 67, 3) := by decide +kernel
theorem dX8_layPath_86 : decode cX8_layPath 86 = .ok (.invokevirtual 70, 3) := by decide +kernel
theorem dX8_layPath_89 : decode cX8_layPath 89 = .ok (.iinc 7 1, 3) := by decide +kernel
theorem dX8_layPath_92 : decode cX8_layPath 92 = .ok (.goto (-54), 3) := by decide +kernel
theorem dX8_harmWithPlanes_0 : decode cX8_harmWithPlanes 0 = .ok (.aload_n 0, 1) := by decide +kernel
theorem dX8_harmWithPlanes_1 : decode cX8_harmWithPlanes 1 = .ok (.getfield 132, 3) := by decide +kernel
theorem dX8_harmWithPlanes_4 : decode cX8_harmWithPlanes 4 = .ok (.istore 4, 2) := by decide +kernel
theorem dX8_harmWithPlanes_6 : decode cX8_harmWithPlanes 6 = .ok (.iload 4, 2) := by decide +kernel
theorem dX8_harmWithPlanes_8 : decode cX8_harmWithPlanes 8 = .ok (.iconst 1, 1) := by decide +kernel
theorem dX8_harmWithPlanes_9 : decode cX8_harmWithPlanes 9 = .ok (.if_icmp .ge 8, 3) := by decide +kernel
theorem dX8_harmWithPlanes_17 : decode cX8_harmWithPlanes 17 = .ok (.aload_n 0, 1) := by decide +kernel
theorem dX8_harmWithPlanes_18 : decode cX8_harmWithPlanes 18 = .ok (.getfield 135, 3) := by decide +kernel
theorem dX8_harmWithPlanes_21 : decode cX8_harmWithPlanes 21 = .ok (.i2l, 1) := by decide +kernel
theorem dX8_harmWithPlanes_22 : decode cX8_harmWithPlanes 22 = .ok (.lload_n 1, 1) := by decide +kernel
theorem dX8_harmWithPlanes_23 : decode cX8_harmWithPlanes 23 = .ok (.iload 4, 2) := by decide +kernel
theorem dX8_harmWithPlanes_25 : decode cX8_harmWithPlanes 25 = .ok (.i2l, 1) := by decide +kernel
theorem dX8_harmWithPlanes_26 : decode cX8_harmWithPlanes 26 = .ok (.lmul, 1) := by decide +kernel
theorem dX8_harmWithPlanes_27 : decode cX8_harmWithPlanes 27 = .ok (.invokestatic 138, 3) := by decide +kernel
theorem dX8_harmWithPlanes_30 : decode cX8_harmWithPlanes 30 = .ok (.lstore 5, 2) := by decide +kernel
theorem dX8_harmWithPlanes_32 : decode cX8_harmWithPlanes 32 = .ok (.aload_n 0, 1) := by decide +kernel
theorem dX8_harmWithPlanes_33 : decode cX8_harmWithPlanes 33 = .ok (.getfield 135, 3) := by decide +kernel
theorem dX8_harmWithPlanes_36 : decode cX8_harmWithPlanes 36 = .ok (.i2l, 1) := by decide +kernel
theorem dX8_harmWithPlanes_37 : decode cX8_harmWithPlanes 37 = .ok (.lload_n 1, 1) := by decide +kernel
theorem dX8_harmWithPlanes_38 : decode cX8_harmWithPlanes 38 = .ok (.iload_n 3, 1) := by decide +kernel
theorem dX8_harmWithPlanes_39 : decode cX8_harmWithPlanes 39 = .ok (.iload 4, 2) := by decide +kernel
theorem dX8_harmWithPlanes_41 : decode cX8_harmWithPlanes 41 = .ok (.irem, 1) := by decide +kernel
theorem dX8_harmWithPlanes_42 : decode cX8_harmWithPlanes 42 = .ok (.i2l, 1) := by decide +kernel
theorem dX8_harmWithPlanes_43 : decode cX8_harmWithPlanes 43 = .ok (.lmul, 1) := by decide +kernel
theorem dX8_harmWithPlanes_44 : decode cX8_harmWithPlanes 44 = .ok (.invokestatic 138, 3) := by decide +kernel
theorem dX8_harmWithPlanes_47 : decode cX8_harmWithPlanes 47 = .ok (.lstore 7, 2) := by decide +kernel
theorem dX8_harmWithPlanes_49 : decode cX8_harmWithPlanes 49 = .ok (.iload_n 3, 1) := by decide +kernel
theorem dX8_harmWithPlanes_50 : decode cX8_harmWithPlanes 50 = .ok (.iload 4, 2) := by decide +kernel
theorem dX8_harmWithPlanes_52 : decode cX8_harmWithPlanes 52 = .ok (.idiv, 1) := by decide +kernel
theorem dX8_harmWithPlanes_53 : decode cX8_harmWithPlanes 53 = .ok (.i2l, 1) := by decide +kernel
theorem dX8_harmWithPlanes_54 : decode cX8_harmWithPlanes 54 = .ok (.lload 5, 2) := by decide +kernel
theorem dX8_harmWithPlanes_56 : decode cX8_harmWithPlanes 56 = .ok (.lmul, 1) := by decide +kernel
theorem dX8_harmWithPlanes_57 : decode cX8_harmWithPlanes 57 = .ok (.lload 7, 2) := by decide +kernel
theorem dX8_harmWithPlanes_59 : decode cX8_harmWithPlanes 59 = .ok (.ladd, 1) := by decide +kernel
theorem dX8_harmWithPlanes_60 : decode cX8_harmWithPlanes 60 = .ok (.lreturn, 1) := by decide +kernel
theorem dX8_harmWithPlanes_12 : decode cX8_harmWithPlanes 12 = .ok (.lload_n 1, 1) := by decide +kernel
theorem dX8_harmWithPlanes_13 : decode cX8_harmWithPlanes 13 = .ok (.iload_n 3, 1) := by decide +kernel
theorem dX8_harmWithPlanes_14 : decode cX8_harmWithPlanes 14 = .ok (.i2l, 1) := by decide +kernel
theorem dX8_harmWithPlanes_15 : decode cX8_harmWithPlanes 15 = .ok (.lmul, 1) := by decide +kernel
theorem dX8_harmWithPlanes_16 : decode cX8_harmWithPlanes 16 = .ok (.lreturn, 1) := by decide +kernel
theorem dX8_flownWhole_0 : decode cX8_flownWhole 0 = .ok (.aload_n 1, 1) := by decide +kernel
theorem dX8_flownWhole_1 : decode cX8_flownWhole 1 = .ok (.iload_n 2, 1) := by decide +kernel
theorem dX8_flownWhole_2 : decode cX8_flownWhole 2 = .ok (.invokevirtual 106, 3) := by decide +kernel
theorem dX8_flownWhole_5 : decode cX8_flownWhole 5 = .ok (.ifCond .ne 5, 3) := by decide +kernel
theorem dX8_flownWhole_10 : decode cX8_flownWhole 10 = .ok (.ldc2_w 117, 3) := by decide +kernel
theorem dX8_flownWhole_13 : decode cX8_flownWhole 13 = .ok (.aload_n 1, 1) := by decide +kernel
theorem dX8_flownWhole_14 : decode cX8_flownWhole 14 = .ok (.getfield 114, 3) := by decide +kernel
theorem dX8_flownWhole_17 : decode cX8_flownWhole 17 = .ok (.iload_n 2, 1) := by decide +kernel
theorem dX8_flownWhole_18 : decode cX8_flownWhole 18 = .ok (.iaload, 1) := by decide +kernel
theorem dX8_flownWhole_19 : decode cX8_flownWhole 19 = .ok (.i2l, 1) := by decide +kernel
theorem dX8_flownWhole_20 : decode cX8_flownWhole 20 = .ok (.lmul, 1) := by decide +kernel
theorem dX8_flownWhole_21 : decode cX8_flownWhole 21 = .ok (.iload_n 3, 1) := by decide +kernel
theorem dX8_flownWhole_22 : decode cX8_flownWhole 22 = .ok (.i2l, 1) := by decide +kernel
theorem dX8_flownWhole_23 : decode cX8_flownWhole 23 = .ok (.lmul, 1) := by decide +kernel
theorem dX8_flownWhole_24 : decode cX8_flownWhole 24 = .ok (.lstore 4, 2) := by decide +kernel
theorem dX8_flownWhole_26 : decode cX8_flownWhole 26 = .ok (.iconst 0, 1) := by decide +kernel
theorem dX8_flownWhole_27 : decode cX8_flownWhole 27 = .ok (.istore 6, 2) := by decide +kernel
theorem dX8_flownWhole_29 : decode cX8_flownWhole 29 = .ok (.iload 6, 2) := by decide +kernel
theorem dX8_flownWhole_31 : decode cX8_flownWhole 31 = .ok (.aload_n 0, 1) := by decide +kernel
theorem dX8_flownWhole_32 : decode cX8_flownWhole 32 = .ok (.getfield 98, 3) := by decide +kernel
theorem dX8_flownWhole_35 : decode cX8_flownWhole 35 = .ok (.if_icmp .gt 79, 3) := by decide +kernel
theorem dX8_flownWhole_114 : decode cX8_flownWhole 114 = .ok (.lload 4, 2) := by decide +kernel
theorem dX8_flownWhole_116 : decode cX8_flownWhole 116 = .ok (.lreturn, 1) := by decide +kernel
theorem dX8_flownWhole_38 : decode cX8_flownWhole 38 = .ok (.aload_n 0, 1) := by decide +kernel
theorem dX8_flownWhole_39 : decode cX8_flownWhole 39 = .ok (.getfield 18, 3) := by decide +kernel
theorem dX8_flownWhole_42 : decode cX8_flownWhole 42 = .ok (.iload 6, 2) := by decide +kernel
theorem dX8_flownWhole_44 : decode cX8_flownWhole 44 = .ok (.laload, 1) := by decide +kernel
theorem dX8_flownWhole_45 : decode cX8_flownWhole 45 = .ok (.lconst 0, 1) := by decide +kernel
theorem dX8_flownWhole_46 : decode cX8_flownWhole 46 = .ok (.lcmp, 1) := by decide +kernel
theorem dX8_flownWhole_47 : decode cX8_flownWhole 47 = .ok (.ifCond .eq 61, 3) := by decide +kernel
theorem dX8_flownWhole_108 : decode cX8_flownWhole 108 = .ok (.iinc 6 1, 3) := by decide +kernel
theorem dX8_flownWhole_111 : decode cX8_flownWhole 111 = .ok (.goto (-82), 3) := by decide +kernel
theorem dX8_flownWhole_50 : decode cX8_flownWhole 50 = .ok (.iconst 0, 1) := by decide +kernel
theorem dX8_flownWhole_51 : decode cX8_flownWhole 51 = .ok (.iload_n 3, 1) := by decide +kernel
theorem dX8_flownWhole_52 : decode cX8_flownWhole 52 = .ok (.iload 6, 2) := by decide +kernel
theorem dX8_flownWhole_54 : decode cX8_flownWhole 54 = .ok (.isub, 1) := by decide +kernel
theorem dX8_flownWhole_55 : decode cX8_flownWhole 55 = .ok (.invokestatic 101, 3) := by decide +kernel
theorem dX8_flownWhole_58 : decode cX8_flownWhole 58 = .ok (.i2l, 1) := by decide +kernel
theorem dX8_flownWhole_59 : decode cX8_flownWhole 59 = .ok (.lstore 7, 2) := by decide +kernel
theorem dX8_flownWhole_61 : decode cX8_flownWhole 61 = .ok (.aload_n 1, 1) := by decide +kernel
theorem dX8_flownWhole_62 : decode cX8_flownWhole 62 = .ok (.aload_n 1, 1) := by decide +kernel
theorem dX8_flownWhole_63 : decode cX8_flownWhole 63 = .ok (.getfield 122, 3) := by decide +kernel
theorem dX8_flownWhole_66 : decode cX8_flownWhole 66 = .ok (.iload_n 2, 1) := by decide +kernel
theorem dX8_flownWhole_67 : decode cX8_flownWhole 67 = .ok (.iaload, 1) := by decide +kernel
theorem dX8_flownWhole_68 : decode cX8_flownWhole 68 = .ok (.i2l, 1) := by decide +kernel
theorem dX8_flownWhole_69 : decode cX8_flownWhole 69 = .ok (.iconst 0, 1) := by decide +kernel
theorem dX8_flownWhole_70 : decode cX8_flownWhole 70 = .ok (.iload 6, 2) := by decide +kernel
theorem dX8_flownWhole_72 : decode cX8_flownWhole 72 = .ok (.iload_n 3, 1) := by decide +kernel
theorem dX8_flownWhole_73 : decode cX8_flownWhole 73 = .ok (.isub, 1) := by decide +kernel
theorem dX8_flownWhole_74 : decode cX8_flownWhole 74 = .ok (.invokestatic 101, 3) := by decide +kernel
theorem dX8_flownWhole_77 : decode cX8_flownWhole 77 = .ok (.invokestatic 128, 3) := by decide +kernel
theorem dX8_flownWhole_80 : decode cX8_flownWhole 80 = .ok (.lstore 9, 2) := by decide +kernel
theorem dX8_flownWhole_82 : decode cX8_flownWhole 82 = .ok (.lload 4, 2) := by decide +kernel
theorem dX8_flownWhole_84 : decode cX8_flownWhole 84 = .ok (.aload_n 0, 1) := by decide +kernel
theorem dX8_flownWhole_85 : decode cX8_flownWhole 85 = .ok (.getfield 18, 3) := by decide +kernel
theorem dX8_flownWhole_88 : decode cX8_flownWhole 88 = .ok (.iload 6, 2) := by decide +kernel
theorem dX8_flownWhole_90 : decode cX8_flownWhole 90 = .ok (.laload, 1) := by decide +kernel
theorem dX8_flownWhole_91 : decode cX8_flownWhole 91 = .ok (.lload 9, 2) := by decide +kernel
theorem dX8_flownWhole_93 : decode cX8_flownWhole 93 = .ok (.aload_n 1, 1) := by decide +kernel
theorem dX8_flownWhole_94 : decode cX8_flownWhole 94 = .ok (.getfield 119, 3) := by decide +kernel
theorem dX8_flownWhole_97 : decode cX8_flownWhole 97 = .ok (.iload_n 2, 1) := by decide +kernel
theorem dX8_flownWhole_98 : decode cX8_flownWhole 98 = .ok (.iaload, 1) := by decide +kernel
theorem dX8_flownWhole_99 : decode cX8_flownWhole 99 = .ok (.i2l, 1) := by decide +kernel
theorem dX8_flownWhole_100 : decode cX8_flownWhole 100 = .ok (.lload 7, 2) := by decide +kernel
theorem dX8_flownWhole_102 : decode cX8_flownWhole 102 = .ok (.lmul, 1) := by decide +kernel
theorem dX8_flownWhole_103 : decode cX8_flownWhole 103 = .ok (.ladd, 1) := by decide +kernel
theorem dX8_flownWhole_104 : decode cX8_flownWhole 104 = .ok (.lmul, 1) := by decide +kernel
theorem dX8_flownWhole_105 : decode cX8_flownWhole 105 = .ok (.ladd, 1) := by decide +kernel
theorem dX8_flownWhole_106 : decode cX8_flownWhole 106 = .ok (.lstore 4, 2) := by decide +kernel
theorem dX8_flownWhole_8 : decode cX8_flownWhole 8 = .ok (.lconst 0, 1) := by decide +kernel
theorem dX8_flownWhole_9 : decode cX8_flownWhole 9 = .ok (.lreturn, 1) := by decide +kernel
theorem dX8_savingMost_0 : decode cX8_savingMost 0 = .ok (.iconst (-1), 1) := by decide +kernel
theorem dX8_savingMost_1 : decode cX8_savingMost 1 = .ok (.istore_n 2, 1) := by decide +kernel
theorem dX8_savingMost_2 : decode cX8_savingMost 2 = .ok (.lconst 0, 1) := by decide +kernel
theorem dX8_savingMost_3 : decode cX8_savingMost 3 = .ok (.lstore_n 3, 1) := by decide +kernel
theorem dX8_savingMost_4 : decode cX8_savingMost 4 = .ok (.aload_n 1, 1) := by decide +kernel
theorem dX8_savingMost_5 : decode cX8_savingMost 5 = .ok (.getfield 147, 3) := by decide +kernel
theorem dX8_savingMost_8 : decode cX8_savingMost 8 = .ok (.iconst 1, 1) := by decide +kernel
theorem dX8_savingMost_9 : decode cX8_savingMost 9 = .ok (.isub, 1) := by decide +kernel
theorem dX8_savingMost_10 : decode cX8_savingMost 10 = .ok (.istore 5, 2) := by decide +kernel
theorem dX8_savingMost_12 : decode cX8_savingMost 12 = .ok (.iload 5, 2) := by decide +kernel
theorem dX8_savingMost_14 : decode cX8_savingMost 14 = .ok (.ifCond .lt 64, 3) := by decide +kernel
theorem dX8_savingMost_78 : decode cX8_savingMost 78 = .ok (.iload_n 2, 1) := by decide +kernel
theorem dX8_savingMost_79 : decode cX8_savingMost 79 = .ok (.ireturn, 1) := by decide +kernel
theorem dX8_savingMost_17 : decode cX8_savingMost 17 = .ok (.aload_n 0, 1) := by decide +kernel
theorem dX8_savingMost_18 : decode cX8_savingMost 18 = .ok (.getfield 25, 3) := by decide +kernel
theorem dX8_savingMost_21 : decode cX8_savingMost 21 = .ok (.iload 5, 2) := by decide +kernel
theorem dX8_savingMost_23 : decode cX8_savingMost 23 = .ok (.iaload, 1) := by decide +kernel
theorem dX8_savingMost_24 : decode cX8_savingMost 24 = .ok (.istore 6, 2) := by decide +kernel
theorem dX8_savingMost_26 : decode cX8_savingMost 26 = .ok (.iload 6, 2) := by decide +kernel
theorem dX8_savingMost_28 : decode cX8_savingMost 28 = .ok (.sipush 999, 3) := by decide +kernel
theorem dX8_savingMost_31 : decode cX8_savingMost 31 = .ok (.if_icmp .ge 25, 3) := by decide +kernel
theorem dX8_savingMost_56 : decode cX8_savingMost 56 = .ok (.lconst 0, 1) := by decide +kernel
theorem dX8_savingMost_57 : decode cX8_savingMost 57 = .ok (.lstore 7, 2) := by decide +kernel
theorem dX8_savingMost_59 : decode cX8_savingMost 59 = .ok (.lload 7, 2) := by decide +kernel
theorem dX8_savingMost_61 : decode cX8_savingMost 61 = .ok (.lload_n 3, 1) := by decide +kernel
theorem dX8_savingMost_62 : decode cX8_savingMost 62 = .ok (.lcmp, 1) := by decide +kernel
theorem dX8_savingMost_63 : decode cX8_savingMost 63 = .ok (.ifCond .le 9, 3) := by decide +kernel
theorem dX8_savingMost_72 : decode cX8_savingMost 72 = .ok (.iinc 5 (-1), 3) := by decide +kernel
theorem dX8_savingMost_75 : decode cX8_savingMost 75 = .ok (.goto (-63), 3) := by decide +kernel
theorem dX8_savingMost_66 : decode cX8_savingMost 66 = .ok (.lload 7, 2) := by decide +kernel
theorem dX8_savingMost_68 : decode cX8_savingMost 68 = .ok (.lstore_n 3, 1) := by decide +kernel
theorem dX8_savingMost_69 : decode cX8_savingMost 69 = .ok (.iload 5, 2) := by decide +kernel
theorem dX8_savingMost_71 : decode cX8_savingMost 71 = .ok (.istore_n 2, 1) := by decide +kernel
theorem dX8_savingMost_34 : decode cX8_savingMost 34 = .ok (.aload_n 0, 1) := by decide +kernel
theorem dX8_savingMost_35 : decode cX8_savingMost 35 = .ok (.iload 5, 2) := by decide +kernel
theorem dX8_savingMost_37 : decode cX8_savingMost 37 = .ok (.iload 6, 2) := by decide +kernel
theorem dX8_savingMost_39 : decode cX8_savingMost 39 = .ok (.invokevirtual 29, 3) := by decide +kernel
theorem dX8_savingMost_42 : decode cX8_savingMost 42 = .ok (.aload_n 0, 1) := by decide +kernel
theorem dX8_savingMost_43 : decode cX8_savingMost 43 = .ok (.iload 5, 2) := by decide +kernel
theorem dX8_savingMost_45 : decode cX8_savingMost 45 = .ok (.iload 6, 2) := by decide +kernel
theorem dX8_savingMost_47 : decode cX8_savingMost 47 = .ok (.iconst 1, 1) := by decide +kernel
theorem dX8_savingMost_48 : decode cX8_savingMost 48 = .ok (.iadd, 1) := by decide +kernel
theorem dX8_savingMost_49 : decode cX8_savingMost 49 = .ok (.invokevirtual 29, 3) := by decide +kernel
theorem dX8_savingMost_52 : decode cX8_savingMost 52 = .ok (.lsub, 1) := by decide +kernel
theorem dX8_savingMost_53 : decode cX8_savingMost 53 = .ok (.goto 4, 3) := by decide +kernel
theorem dX8_packRoom_0 : decode cX8_packRoom 0 = .ok (.aload_n 1, 1) := by decide +kernel
theorem dX8_packRoom_1 : decode cX8_packRoom 1 = .ok (.iload_n 2, 1) := by decide +kernel
theorem dX8_packRoom_2 : decode cX8_packRoom 2 = .ok (.invokevirtual 141, 3) := by decide +kernel
theorem dX8_packRoom_5 : decode cX8_packRoom 5 = .ok (.ifCond .ne 5, 3) := by decide +kernel
theorem dX8_packRoom_10 : decode cX8_packRoom 10 = .ok (.aload_n 0, 1) := by decide +kernel
theorem dX8_packRoom_11 : decode cX8_packRoom 11 = .ok (.getfield 25, 3) := by decide +kernel
theorem dX8_packRoom_14 : decode cX8_packRoom 14 = .ok (.iconst 0, 1) := by decide +kernel
theorem dX8_packRoom_15 : decode cX8_packRoom 15 = .ok (.invokestatic 144, 3) := by decide +kernel
theorem dX8_packRoom_18 : decode cX8_packRoom 18 = .ok (.iconst 0, 1) := by decide +kernel
theorem dX8_packRoom_19 : decode cX8_packRoom 19 = .ok (.istore_n 3, 1) := by decide +kernel
theorem dX8_packRoom_20 : decode cX8_packRoom 20 = .ok (.iload_n 3, 1) := by decide +kernel
theorem dX8_packRoom_21 : decode cX8_packRoom 21 = .ok (.aload_n 1, 1) := by decide +kernel
theorem dX8_packRoom_22 : decode cX8_packRoom 22 = .ok (.getfield 147, 3) := by decide +kernel
theorem dX8_packRoom_25 : decode cX8_packRoom 25 = .ok (.if_icmp .ge 24, 3) := by decide +kernel
theorem dX8_packRoom_49 : decode cX8_packRoom 49 = .ok (.iconst 0, 1) := by decide +kernel
theorem dX8_packRoom_50 : decode cX8_packRoom 50 = .ok (.istore_n 3, 1) := by decide +kernel
theorem dX8_packRoom_51 : decode cX8_packRoom 51 = .ok (.iload_n 3, 1) := by decide +kernel
theorem dX8_packRoom_52 : decode cX8_packRoom 52 = .ok (.aload_n 1, 1) := by decide +kernel
theorem dX8_packRoom_53 : decode cX8_packRoom 53 = .ok (.getfield 150, 3) := by decide +kernel
theorem dX8_packRoom_56 : decode cX8_packRoom 56 = .ok (.iload_n 2, 1) := by decide +kernel
theorem dX8_packRoom_57 : decode cX8_packRoom 57 = .ok (.iaload, 1) := by decide +kernel
theorem dX8_packRoom_58 : decode cX8_packRoom 58 = .ok (.if_icmp .ge 36, 3) := by decide +kernel
theorem dX8_packRoom_94 : decode cX8_packRoom 94 = .ok (.lconst 0, 1) := by decide +kernel
theorem dX8_packRoom_95 : decode cX8_packRoom 95 = .ok (.lstore_n 3, 1) := by decide +kernel
theorem dX8_packRoom_96 : decode cX8_packRoom 96 = .ok (.iconst 0, 1) := by decide +kernel
theorem dX8_packRoom_97 : decode cX8_packRoom 97 = .ok (.istore 5, 2) := by decide +kernel
theorem dX8_packRoom_99 : decode cX8_packRoom 99 = .ok (.iload 5, 2) := by decide +kernel
theorem dX8_packRoom_101 : decode cX8_packRoom 101 = .ok (.aload_n 1, 1) := by decide +kernel
theorem dX8_packRoom_102 : decode cX8_packRoom 102 = .ok (.getfield 147, 3) := by decide +kernel
theorem dX8_packRoom_105 : decode cX8_packRoom 105 = .ok (.if_icmp .ge 25, 3) := by decide +kernel
theorem dX8_packRoom_130 : decode cX8_packRoom 130 = .ok (.lload_n 3, 1) := by decide +kernel
theorem dX8_packRoom_131 : decode cX8_packRoom 131 = .ok (.lreturn, 1) := by decide +kernel
theorem dX8_packRoom_108 : decode cX8_packRoom 108 = .ok (.lload_n 3, 1) := by decide +kernel
theorem dX8_packRoom_109 : decode cX8_packRoom 109 = .ok (.aload_n 0, 1) := by decide +kernel
theorem dX8_packRoom_110 : decode cX8_packRoom 110 = .ok (.iload 5, 2) := by decide +kernel
theorem dX8_packRoom_112 : decode cX8_packRoom 112 = .ok (.aload_n 0, 1) := by decide +kernel
theorem dX8_packRoom_113 : decode cX8_packRoom 113 = .ok (.getfield 25, 3) := by decide +kernel
theorem dX8_packRoom_116 : decode cX8_packRoom 116 = .ok (.iload 5, 2) := by decide +kernel
theorem dX8_packRoom_118 : decode cX8_packRoom 118 = .ok (.iaload, 1) := by decide +kernel
theorem dX8_packRoom_119 : decode cX8_packRoom 119 = .ok (.invokevirtual 29, 3) := by decide +kernel
theorem dX8_packRoom_122 : decode cX8_packRoom 122 = .ok (.ladd, 1) := by decide +kernel
theorem dX8_packRoom_123 : decode cX8_packRoom 123 = .ok (.lstore_n 3, 1) := by decide +kernel
theorem dX8_packRoom_124 : decode cX8_packRoom 124 = .ok (.iinc 5 1, 3) := by decide +kernel
theorem dX8_packRoom_127 : decode cX8_packRoom 127 = .ok (.goto (-28), 3) := by decide +kernel
theorem dX8_packRoom_61 : decode cX8_packRoom 61 = .ok (.aload_n 0, 1) := by decide +kernel
theorem dX8_packRoom_62 : decode cX8_packRoom 62 = .ok (.aload_n 1, 1) := by decide +kernel
theorem dX8_packRoom_63 : decode cX8_packRoom 63 = .ok (.invokevirtual 153, 3) := by decide +kernel
theorem dX8_packRoom_66 : decode cX8_packRoom 66 = .ok (.istore 4, 2) := by decide +kernel
theorem dX8_packRoom_68 : decode cX8_packRoom 68 = .ok (.iload 4, 2) := by decide +kernel
theorem dX8_packRoom_70 : decode cX8_packRoom 70 = .ok (.iconst (-1), 1) := by decide +kernel
theorem dX8_packRoom_71 : decode cX8_packRoom 71 = .ok (.if_icmp .ne 6, 3) := by decide +kernel
theorem dX8_packRoom_77 : decode cX8_packRoom 77 = .ok (.aload_n 0, 1) := by decide +kernel
theorem dX8_packRoom_78 : decode cX8_packRoom 78 = .ok (.getfield 25, 3) := by decide +kernel
theorem dX8_packRoom_81 : decode cX8_packRoom 81 = .ok (.iload 4, 2) := by decide +kernel
theorem dX8_packRoom_83 : decode cX8_packRoom 83 = .ok (.dup2, 1) := by decide +kernel
theorem dX8_packRoom_84 : decode cX8_packRoom 84 = .ok (.iaload, 1) := by decide +kernel
theorem dX8_packRoom_85 : decode cX8_packRoom 85 = .ok (.iconst 1, 1) := by decide +kernel
theorem dX8_packRoom_86 : decode cX8_packRoom 86 = .ok (.iadd, 1) := by decide +kernel
theorem dX8_packRoom_87 : decode cX8_packRoom 87 = .ok (.iastore, 1) := by decide +kernel
theorem dX8_packRoom_88 : decode cX8_packRoom 88 = .ok (.iinc 3 1, 3) := by decide +kernel
theorem dX8_packRoom_91 : decode cX8_packRoom 91 = .ok (.goto (-40), 3) := by decide +kernel
theorem dX8_packRoom_74 : decode cX8_packRoom 74 = .ok (.goto 20, 3) := by decide +kernel
theorem dX8_packRoom_28 : decode cX8_packRoom 28 = .ok (.aload_n 0, 1) := by decide +kernel
theorem dX8_packRoom_29 : decode cX8_packRoom 29 = .ok (.aload_n 1, 1) := by decide +kernel
theorem dX8_packRoom_30 : decode cX8_packRoom 30 = .ok (.iload_n 2, 1) := by decide +kernel
theorem dX8_packRoom_31 : decode cX8_packRoom 31 = .ok (.iload_n 3, 1) := by decide +kernel
theorem dX8_packRoom_32 : decode cX8_packRoom 32 = .ok (.invokevirtual 43, 3) := by decide +kernel
theorem dX8_packRoom_35 : decode cX8_packRoom 35 = .ok (.aload_n 0, 1) := by decide +kernel
theorem dX8_packRoom_36 : decode cX8_packRoom 36 = .ok (.aload_n 1, 1) := by decide +kernel
theorem dX8_packRoom_37 : decode cX8_packRoom 37 = .ok (.iload_n 3, 1) := by decide +kernel
theorem dX8_packRoom_38 : decode cX8_packRoom 38 = .ok (.iload_n 3, 1) := by decide +kernel
theorem dX8_packRoom_39 : decode cX8_packRoom 39 = .ok (.iconst 0, 1) := by decide +kernel
theorem dX8_packRoom_40 : decode cX8_packRoom 40 = .ok (.invokevirtual 47, 3) := by decide +kernel
theorem dX8_packRoom_43 : decode cX8_packRoom 43 = .ok (.iinc 3 1, 3) := by decide +kernel
theorem dX8_packRoom_46 : decode cX8_packRoom 46 = .ok (.goto (-26), 3) := by decide +kernel
theorem dX8_packRoom_8 : decode cX8_packRoom 8 = .ok (.lconst 0, 1) := by decide +kernel
theorem dX8_packRoom_9 : decode cX8_packRoom 9 = .ok (.lreturn, 1) := by decide +kernel
theorem sV_X8_29 : SiteV RX8 29 yX8_whole cX8_whole 4 (some .long) 2 := ⟨ml_X8_29, im_X8_whole, se_X8_whole, ini_X8, co_X8_whole, by decide +kernel⟩
theorem sV_X8_35 : SiteV RX8 35 yX8_leastSacks cX8_leastSacks 4 (some .int) 1 := ⟨ml_X8_35, im_X8_leastSacks, se_X8_leastSacks, ini_X8, co_X8_leastSacks, by decide +kernel⟩
theorem sV_X8_39 : SiteV RX8 39 yX8_partsWanting cX8_partsWanting 2 (some .long) 1 := ⟨ml_X8_39, im_X8_partsWanting, se_X8_partsWanting, ini_X8, co_X8_partsWanting, by decide +kernel⟩
theorem sS_X8_92 : SiteS RX8 92 yJ7_fill_d0a16 cJ7_fill_d0a16 5 none 2 := ⟨ml_X8_92, st_J7_fill_d0a16, ini_J7, co_J7_fill_d0a16, by decide +kernel⟩
theorem sV_X8_85 : SiteV RX8 85 yX5_followOne cX5_followOne 10 none 2 := ⟨ml_X8_85, im_X5_followOne, se_X5_followOne, ini_X5, co_X5_followOne, by decide +kernel⟩
theorem sV_X8_54 : SiteV RX8 54 yX8_forget cX8_forget 1 none 0 := ⟨ml_X8_54, im_X8_forget, se_X8_forget, ini_X8, co_X8_forget, by decide +kernel⟩
theorem sV_X8_63 : SiteV RX8 63 yX2_wanted cX2_wanted 4 (some .int) 3 := ⟨ml_X8_63, im_X2_wanted, se_X2_wanted, ini_X2, co_X2_wanted, by decide +kernel⟩
theorem sV_X8_89 : SiteV RX8 89 yX5_partsOn cX5_partsOn 2 (some .long) 1 := ⟨ml_X8_89, im_X5_partsOn, se_X5_partsOn, ini_X5, co_X5_partsOn, by decide +kernel⟩
theorem sV_X8_70 : SiteV RX8 70 yX8_gather cX8_gather 4 none 2 := ⟨ml_X8_70, im_X8_gather, se_X8_gather, ini_X8, co_X8_gather, by decide +kernel⟩
theorem sV_X8_106 : SiteV RX8 106 yX2_hasThing cX2_hasThing 2 (some .boolean) 1 := ⟨ml_X8_106, im_X2_hasThing, se_X2_hasThing, ini_X2, co_X2_hasThing, by decide +kernel⟩
theorem sV_X8_110 : SiteV RX8 110 yX8_lossWhole cX8_lossWhole 8 (some .long) 3 := ⟨ml_X8_110, im_X8_lossWhole, se_X8_lossWhole, ini_X8, co_X8_lossWhole, by decide +kernel⟩
theorem sV_X8_43 : SiteV RX8 43 yX8_gatherAlone cX8_gatherAlone 5 none 3 := ⟨ml_X8_43, im_X8_gatherAlone, se_X8_gatherAlone, ini_X8, co_X8_gatherAlone, by decide +kernel⟩
theorem sV_X8_47 : SiteV RX8 47 yX8_sumUp cX8_sumUp 10 none 4 := ⟨ml_X8_47, im_X8_sumUp, se_X8_sumUp, ini_X8, co_X8_sumUp, by decide +kernel⟩
theorem sV_X8_51 : SiteV RX8 51 yX5_followTwo cX5_followTwo 8 none 3 := ⟨ml_X8_51, im_X5_followTwo, se_X5_followTwo, ini_X5, co_X5_followTwo, by decide +kernel⟩
theorem sV_X8_67 : SiteV RX8 67 yX5_partsOnTwo cX5_partsOnTwo 4 (some .long) 2 := ⟨ml_X8_67, im_X5_partsOnTwo, se_X5_partsOnTwo, ini_X5, co_X5_partsOnTwo, by decide +kernel⟩
theorem sV_X8_77 : SiteV RX8 77 yX2_eaten cX2_eaten 4 (some .int) 2 := ⟨ml_X8_77, im_X2_eaten, se_X2_eaten, ini_X2, co_X2_eaten, by decide +kernel⟩
theorem sV_X8_81 : SiteV RX8 81 yX2_fedDays cX2_fedDays 6 (some .int) 4 := ⟨ml_X8_81, im_X2_fedDays, se_X2_fedDays, ini_X2, co_X2_fedDays, by decide +kernel⟩
theorem sS_X8_128 : SiteS RX8 128 yX8_harmWithPlanes cX8_harmWithPlanes 9 (some .long) 3 := ⟨ml_X8_128, st_X8_harmWithPlanes, ini_X8, co_X8_harmWithPlanes, by decide +kernel⟩
theorem sV_X8_141 : SiteV RX8 141 yX2_hasValley cX2_hasValley 2 (some .boolean) 1 := ⟨ml_X8_141, im_X2_hasValley, se_X2_hasValley, ini_X2, co_X2_hasValley, by decide +kernel⟩
theorem sS_X8_144 : SiteS RX8 144 yJ7_fill_53178 cJ7_fill_53178 4 none 2 := ⟨ml_X8_144, st_J7_fill_53178, ini_J7, co_J7_fill_53178, by decide +kernel⟩
theorem sV_X8_153 : SiteV RX8 153 yX8_savingMost cX8_savingMost 9 (some .int) 1 := ⟨ml_X8_153, im_X8_savingMost, se_X8_savingMost, ini_X8, co_X8_savingMost, by decide +kernel⟩
set_option maxHeartbeats 4000000 in
set_option maxRecDepth 100000 in
theorem t_X8_whole (l : Launch) (D : va_G) (cy : Nat → ClassId) (base : Nat) (τ : Nat → Nat) (G : Gh) (a : Nat) (h_a : τ a = 3) (v : Int32) (w : Int32) : MM l yX8_whole cX8_whole 4 (some .long) 0 0 0 D cy [.ref a, .int v, .int w] (PT D cy base τ G) (PuL (fun r => True)) noF := by
  refine MM.of (by decide) (Nat.le_of_ble_eq_true rfl) ?_
  intro p e s m below meth c C hPT ls hl
  obtain ⟨hx, hb, hr, hml, hown, hts, hlocks, hK, hnm⟩ := C
  obtain ⟨hZ, hT⟩ := hPT
  have hS : va_S (RA base) s.heap s.heap [] := va_S.rf
  have hl : lv_has ls 4 [(0, .ref a), (1, .int v), (2, .int w)] := hl
  refine lv_iload_n hx hb dX8_whole_0 rfl (lv_at hl 1 rfl) ?_
  refine lv_if_lt (tgt := 24) hx hb dX8_whole_1 (by decide) (fun c_1 => ?_) (fun c_1 => ?_)
  · skip
    have tc_1 : v.toInt < 0 := (fa_lt _ _).mp c_1
    refine lv_iconst (v := 0) hx hb dX8_whole_24 (by decide) ?_
    refine lv_istore_n (lv' := [(3, .int 0), (0, .ref a), (1, .int v), (2, .int w)]) hx hb dX8_whole_25 rfl hl (by decide) rfl (fun ls hl => ?_)
    refine lv_iload_n hx hb dX8_whole_26 rfl (lv_at hl 0 rfl) ?_
    refine lv_if_eq (tgt := 45) hx hb dX8_whole_27 (by decide) (fun _ => ?_) (fun c_2 => absurd (by decide) c_2)
    refine lv_lconst (v := 0) hx hb dX8_whole_45 (by decide) ?_
    exact ret_l hx hb hr hlocks ⟨rfl, _, rfl, trivial⟩ (fun _ h => absurd h List.not_mem_nil) (Nat.le_refl _) (Nat.le_refl _) dX8_whole_46
  · skip
    have tc_1 : ¬ v.toInt < 0 := fun h => c_1 ((fa_lt _ _).mpr h)
    refine lv_iload_n hx hb dX8_whole_4 rfl (lv_at hl 1 rfl) ?_
    refine lv_iconst (v := 3) hx hb dX8_whole_5 (by decide) ?_
    refine lv_icmp_ge (tgt := 24) hx hb dX8_whole_6 (by decide) (fun c_3 => ?_) (fun c_3 => ?_)
    · skip
      have tc_3 : 3 ≤ v.toInt := (fa_le _ _).mp c_3
      refine lv_iconst (v := 0) hx hb dX8_whole_24 (by decide) ?_
      refine lv_istore_n (lv' := [(3, .int 0), (0, .ref a), (1, .int v), (2, .int w)]) hx hb dX8_whole_25 rfl hl (by decide) rfl (fun ls hl => ?_)
      refine lv_iload_n hx hb dX8_whole_26 rfl (lv_at hl 0 rfl) ?_
      refine lv_if_eq (tgt := 45) hx hb dX8_whole_27 (by decide) (fun _ => ?_) (fun c_4 => absurd (by decide) c_4)
      refine lv_lconst (v := 0) hx hb dX8_whole_45 (by decide) ?_
      exact ret_l hx hb hr hlocks ⟨rfl, _, rfl, trivial⟩ (fun _ h => absurd h List.not_mem_nil) (Nat.le_refl _) (Nat.le_refl _) dX8_whole_46
    · skip
      have tc_3 : ¬ 3 ≤ v.toInt := fun h => c_3 ((fa_le _ _).mpr h)
      refine lv_iload_n hx hb dX8_whole_9 rfl (lv_at hl 2 rfl) ?_
      refine lv_if_lt (tgt := 24) hx hb dX8_whole_10 (by decide) (fun c_5 => ?_) (fun c_5 => ?_)
      · skip
        have tc_5 : w.toInt < 0 := (fa_lt _ _).mp c_5
        refine lv_iconst (v := 0) hx hb dX8_whole_24 (by decide) ?_
        refine lv_istore_n (lv' := [(3, .int 0), (0, .ref a), (1, .int v), (2, .int w)]) hx hb dX8_whole_25 rfl hl (by decide) rfl (fun ls hl => ?_)
        refine lv_iload_n hx hb dX8_whole_26 rfl (lv_at hl 0 rfl) ?_
        refine lv_if_eq (tgt := 45) hx hb dX8_whole_27 (by decide) (fun _ => ?_) (fun c_6 => absurd (by decide) c_6)
        refine lv_lconst (v := 0) hx hb dX8_whole_45 (by decide) ?_
        exact ret_l hx hb hr hlocks ⟨rfl, _, rfl, trivial⟩ (fun _ h => absurd h List.not_mem_nil) (Nat.le_refl _) (Nat.le_refl _) dX8_whole_46
      · skip
        have tc_5 : ¬ w.toInt < 0 := fun h => c_5 ((fa_lt _ _).mpr h)
        refine lv_iload_n hx hb dX8_whole_13 rfl (lv_at hl 2 rfl) ?_
        refine lv_sipush (v := 1000) hx hb dX8_whole_14 (by decide) ?_
        refine lv_icmp_ge (tgt := 24) hx hb dX8_whole_17 (by decide) (fun c_7 => ?_) (fun c_7 => ?_)
        · skip
          have tc_7 : 1000 ≤ w.toInt := (fa_le _ _).mp c_7
          refine lv_iconst (v := 0) hx hb dX8_whole_24 (by decide) ?_
          refine lv_istore_n (lv' := [(3, .int 0), (0, .ref a), (1, .int v), (2, .int w)]) hx hb dX8_whole_25 rfl hl (by decide) rfl (fun ls hl => ?_)
          refine lv_iload_n hx hb dX8_whole_26 rfl (lv_at hl 0 rfl) ?_
          refine lv_if_eq (tgt := 45) hx hb dX8_whole_27 (by decide) (fun _ => ?_) (fun c_8 => absurd (by decide) c_8)
          refine lv_lconst (v := 0) hx hb dX8_whole_45 (by decide) ?_
          exact ret_l hx hb hr hlocks ⟨rfl, _, rfl, trivial⟩ (fun _ h => absurd h List.not_mem_nil) (Nat.le_refl _) (Nat.le_refl _) dX8_whole_46
        · skip
          have tc_7 : ¬ 1000 ≤ w.toInt := fun h => c_7 ((fa_le _ _).mpr h)
          refine lv_iconst (v := 1) hx hb dX8_whole_20 (by decide) ?_
          refine lv_goto (tgt := 25) hx hb dX8_whole_21 (by decide) ?_
          refine lv_istore_n (lv' := [(3, .int 1), (0, .ref a), (1, .int v), (2, .int w)]) hx hb dX8_whole_25 rfl hl (by decide) rfl (fun ls hl => ?_)
          refine lv_iload_n hx hb dX8_whole_26 rfl (lv_at hl 0 rfl) ?_
          refine lv_if_eq (tgt := 45) hx hb dX8_whole_27 (by decide) (fun c_9 => absurd c_9 (by decide)) (fun _ => ?_)
          refine lv_aload_n hx hb dX8_whole_30 rfl (lv_at hl 1 rfl) ?_
          refine t_getr cf_3 hx hb hts hown hK hT h_a (k := 3) (P := fun q => τ q = 37) rfl (fun _ h9 => h9) fl_X8_22 (fun _ h9 => h9) dX8_whole_31 (fun q_10 eq_10 hq_10 => ?_)
          refine lv_iload_n hx hb dX8_whole_34 rfl (lv_at hl 2 rfl) ?_
          refine lv_sipush (v := 1000) hx hb dX8_whole_35 (by decide) ?_
          refine lv_imul hx hb dX8_whole_38 ?_
          refine lv_topi (fun z_11 ez_11 => ?_)
          have tz_11 : z_11.toInt = v.toInt * 1000 := mul_t ez_11 (show -2147483648 ≤ v.toInt * 1000 by omega) (show v.toInt * 1000 < 2147483648 by omega)
          refine lv_iload_n hx hb dX8_whole_39 rfl (lv_at hl 3 rfl) ?_
          refine lv_iadd hx hb dX8_whole_40 ?_
          refine lv_topi (fun z_12 ez_12 => ?_)
          have tz_12 : z_12.toInt = z_11.toInt + w.toInt := add_t ez_12 (show -2147483648 ≤ z_11.toInt + w.toInt by omega) (show z_11.toInt + w.toInt < 2147483648 by omega)
          refine t_lald (n := 3000) (i := z_12) rfl (by decide) hx hb hK hT hq_10 (hT.len hq_10 (by decide)) ⟨by omega, by omega⟩ dX8_whole_41 (fun z_13 ez_13 => ?_)
          refine lv_goto (tgt := 46) hx hb dX8_whole_42 (by decide) ?_
          exact ret_l hx hb hr hlocks ⟨rfl, _, rfl, trivial⟩ (fun _ h => absurd h List.not_mem_nil) (Nat.le_refl _) (Nat.le_refl _) dX8_whole_46
set_option maxHeartbeats 4000000 in
set_option maxRecDepth 100000 in
theorem t_X8_thousandths (l : Launch) (D : va_G) (cy : Nat → ClassId) (base : Nat) (τ : Nat → Nat) (G : Gh) (a : Nat) (h_a : τ a = 3) (v : Int32) : MM l yX8_thousandths cX8_thousandths 2 (some .long) 1 0 0 D cy [.ref a, .int v] (PT D cy base τ G) (PuL (fun r => True)) noF := by
  refine MM.of (by decide) (Nat.le_of_ble_eq_true rfl) ?_
  intro p e s m below meth c C hPT ls hl
  obtain ⟨hx, hb, hr, hml, hown, hts, hlocks, hK, hnm⟩ := C
  obtain ⟨hZ, hT⟩ := hPT
  have hS : va_S (RA base) s.heap s.heap [] := va_S.rf
  have hl : lv_has ls 2 [(0, .ref a), (1, .int v)] := hl
  refine lv_aload_n hx hb dX8_thousandths_0 rfl (lv_at hl 0 rfl) ?_
  refine lv_iconst (v := 0) hx hb dX8_thousandths_1 (by decide) ?_
  refine lv_iload_n hx hb dX8_thousandths_2 rfl (lv_at hl 1 rfl) ?_
  refine pu_calll (runV (As := [.int 0, .int v]) (rest := []) ⟨hx, hb, hml, hown, hts⟩ (t_X8_whole l D cy base τ G a h_a 0 v) sV_X8_29 hK (t_recv cf_3 hK hT h_a) ⟨Nat.le_trans hZ hS.1, hT⟩ ⟨Nat.le_of_ble_eq_true rfl, Nat.le_of_ble_eq_true rfl⟩ rfl hl.1 rfl (Nat.le_of_ble_eq_true rfl) dX8_thousandths_3 ⟨Nat.le_of_ble_eq_true rfl, Nat.le_of_ble_eq_true rfl⟩) (fun r_1 hr_1 => ?_)
  refine lv_ldc2 (v := 1000000000) hx hb hown (hts _ kl_X8_33) dX8_thousandths_6 ?_
  refine lv_ldiv hx hb dX8_thousandths_9 (by decide) ?_
  refine lv_topl (fun z_2 ez_2 => ?_)
  exact ret_l hx hb hr hlocks ⟨rfl, _, rfl, trivial⟩ (fun _ h => absurd h List.not_mem_nil) (Nat.le_refl _) (Nat.le_refl _) dX8_thousandths_10
set_option maxHeartbeats 4000000 in
set_option maxRecDepth 100000 in
theorem t_X8_leastSacks (l : Launch) (D : va_G) (cy : Nat → ClassId) (base : Nat) (τ : Nat → Nat) (G : Gh) (a : Nat) (h_a : τ a = 3) (v : Int32) : MM l yX8_leastSacks cX8_leastSacks 4 (some .int) 1 0 0 D cy [.ref a, .int v] (PT D cy base τ G) (PuI (fun r => 0 ≤ r.toInt ∧ r.toInt ≤ 999)) noF := by
  refine MM.of (by decide) (Nat.le_of_ble_eq_true rfl) ?_
  intro p e s m below meth c C hPT ls hl
  obtain ⟨hx, hb, hr, hml, hown, hts, hlocks, hK, hnm⟩ := C
  obtain ⟨hZ, hT⟩ := hPT
  have hS : va_S (RA base) s.heap s.heap [] := va_S.rf
  have hl : lv_has ls 4 [(0, .ref a), (1, .int v)] := hl
  refine lv_iconst (v := 0) hx hb dX8_leastSacks_0 (by decide) ?_
  refine lv_istore_n (lv' := [(2, .int 0), (0, .ref a), (1, .int v)]) hx hb dX8_leastSacks_1 rfl hl (by decide) rfl (fun ls hl => ?_)
  refine lv_iconst (v := 1) hx hb dX8_leastSacks_2 (by decide) ?_
  refine lv_istore_n (lv' := [(3, .int 1), (2, .int 0), (0, .ref a), (1, .int v)]) hx hb dX8_leastSacks_3 rfl hl (by decide) rfl (fun ls hl => ?_)
  refine W.loop (σ := Int32 × Int32) (fun w1 H locs ls => 0 ≤ w1.1.toInt ∧ w1.1.toInt ≤ 999 ∧ 1 ≤ w1.2.toInt ∧ w1.2.toInt ≤ 1000 ∧ H = s.heap ∧ locs = [] ∧ lv_has ls 4 [(2, .int w1.1), (3, .int w1.2), (0, .ref a), (1, .int v)]) (fun w1 => (1000 - w1.2.toInt).toNat) ?_ ((0 : Int32), (1 : Int32)) _ _ _ ⟨(by show 0 ≤ (0 : Int32).toInt; decide), (by show (0 : Int32).toInt ≤ 999; decide), (by show 1 ≤ (1 : Int32).toInt; decide), (by show (1 : Int32).toInt ≤ 1000; decide), rfl, rfl, lv_sub hl [1, 0, 2, 3] rfl⟩
  intro w1 H locs ls hI ih1
  obtain ⟨x1_2, x1_3⟩ := w1
  obtain ⟨i1_0, i1_1, i1_2, i1_3, rfl, rfl, hl⟩ := hI
  have i1_0 : 0 ≤ x1_2.toInt := i1_0
  have i1_1 : x1_2.toInt ≤ 999 := i1_1
  have i1_2 : 1 ≤ x1_3.toInt := i1_2
  have i1_3 : x1_3.toInt ≤ 1000 := i1_3
  have hl : lv_has ls 4 [(2, .int x1_2), (3, .int x1_3), (0, .ref a), (1, .int v)] := hl
  refine lv_iload_n hx hb dX8_leastSacks_4 rfl (lv_at hl 1 rfl) ?_
  refine lv_sipush (v := 1000) hx hb dX8_leastSacks_5 (by decide) ?_
  refine lv_icmp_ge (tgt := 35) hx hb dX8_leastSacks_8 (by decide) (fun c_2 => ?_) (fun c_2 => ?_)
  · skip
    have tc_2 : 1000 ≤ x1_3.toInt := (fa_le _ _).mp c_2
    refine lv_iload_n hx hb dX8_leastSacks_35 rfl (lv_at hl 0 rfl) ?_
    exact ret_i hx hb hr hlocks ⟨rfl, _, rfl, ⟨(by omega), (by omega)⟩⟩ (fun _ h => absurd h List.not_mem_nil) (Nat.le_refl _) (Nat.le_refl _) dX8_leastSacks_36
  · skip
    have tc_2 : ¬ 1000 ≤ x1_3.toInt := fun h => c_2 ((fa_le _ _).mpr h)
    refine lv_aload_n hx hb dX8_leastSacks_11 rfl (lv_at hl 2 rfl) ?_
    refine lv_iload_n hx hb dX8_leastSacks_12 rfl (lv_at hl 3 rfl) ?_
    refine lv_iload_n hx hb dX8_leastSacks_13 rfl (lv_at hl 1 rfl) ?_
    refine pu_calll (runV (As := [.int v, .int x1_3]) (rest := []) ⟨hx, hb, hml, hown, hts⟩ (t_X8_whole l D cy base τ G a h_a v x1_3) sV_X8_29 hK (t_recv cf_3 hK hT h_a) ⟨Nat.le_trans hZ hS.1, hT⟩ ⟨Nat.le_of_ble_eq_true rfl, Nat.le_of_ble_eq_true rfl⟩ rfl hl.1 rfl (Nat.le_of_ble_eq_true rfl) dX8_leastSacks_14 ⟨Nat.le_of_ble_eq_true rfl, Nat.le_of_ble_eq_true rfl⟩) (fun r_3 hr_3 => ?_)
    refine lv_aload_n hx hb dX8_leastSacks_17 rfl (lv_at hl 2 rfl) ?_
    refine lv_iload_n hx hb dX8_leastSacks_18 rfl (lv_at hl 3 rfl) ?_
    refine lv_iload_n hx hb dX8_leastSacks_19 rfl (lv_at hl 0 rfl) ?_
    refine pu_calll (runV (As := [.int v, .int x1_2]) (rest := [.long r_3]) ⟨hx, hb, hml, hown, hts⟩ (t_X8_whole l D cy base τ G a h_a v x1_2) sV_X8_29 hK (t_recv cf_3 hK hT h_a) ⟨Nat.le_trans hZ hS.1, hT⟩ ⟨Nat.le_of_ble_eq_true rfl, Nat.le_of_ble_eq_true rfl⟩ rfl hl.1 rfl (Nat.le_of_ble_eq_true rfl) dX8_leastSacks_20 ⟨Nat.le_of_ble_eq_true rfl, Nat.le_of_ble_eq_true rfl⟩) (fun r_4 hr_4 => ?_)
    refine W.lcmp hx hb dX8_leastSacks_23 ?_
    refine lv_topi (fun z_5 ez_5 => ?_)
    have tz_5 : (z_5.toInt < 0 ↔ r_3.toInt < r_4.toInt) ∧ (0 < z_5.toInt ↔ r_4.toInt < r_3.toInt) ∧ -1 ≤ z_5.toInt ∧ z_5.toInt ≤ 1 := cmp_t ez_5
    refine lv_if_ge (tgt := 29) hx hb dX8_leastSacks_24 (by decide) (fun c_6 => ?_) (fun c_6 => ?_)
    · skip
      have tc_6 : 0 ≤ z_5.toInt := (fa_le _ _).mp c_6
      obtain ⟨z_7, ez_7⟩ : ∃ y : Int32, y = x1_3 + 1 := ⟨_, rfl⟩
      have tz_7 : z_7.toInt = x1_3.toInt + 1 := add_t ez_7 (show -2147483648 ≤ x1_3.toInt + 1 by omega) (show x1_3.toInt + 1 < 2147483648 by omega)
      refine lv_iinc (v := z_7) (lv' := [(3, .int z_7), (2, .int x1_2), (0, .ref a), (1, .int v)]) hx hb dX8_leastSacks_29 hl (k := 1) rfl (by rw [ez_7]; rfl) (by decide) rfl (fun ls hl => ?_)
      refine lv_goto (tgt := 4) hx hb dX8_leastSacks_32 (by decide) ?_
      exact ih1 (x1_2, z_7) _ _ _ (by show (1000 - z_7.toInt).toNat < (1000 - x1_3.toInt).toNat; omega) ⟨(by show 0 ≤ x1_2.toInt; omega), (by show x1_2.toInt ≤ 999; omega), (by show 1 ≤ z_7.toInt; omega), (by show z_7.toInt ≤ 1000; omega), rfl, rfl, lv_sub hl [1, 0, 2, 3] rfl⟩
    · skip
      have tc_6 : ¬ 0 ≤ z_5.toInt := fun h => c_6 ((fa_le _ _).mpr h)
      refine lv_iload_n hx hb dX8_leastSacks_27 rfl (lv_at hl 1 rfl) ?_
      refine lv_istore_n (lv' := [(2, .int x1_3), (3, .int x1_3), (0, .ref a), (1, .int v)]) hx hb dX8_leastSacks_28 rfl hl (by decide) rfl (fun ls hl => ?_)
      obtain ⟨z_8, ez_8⟩ : ∃ y : Int32, y = x1_3 + 1 := ⟨_, rfl⟩
      have tz_8 : z_8.toInt = x1_3.toInt + 1 := add_t ez_8 (show -2147483648 ≤ x1_3.toInt + 1 by omega) (show x1_3.toInt + 1 < 2147483648 by omega)
      refine lv_iinc (v := z_8) (lv' := [(3, .int z_8), (2, .int x1_3), (0, .ref a), (1, .int v)]) hx hb dX8_leastSacks_29 hl (k := 1) rfl (by rw [ez_8]; rfl) (by decide) rfl (fun ls hl => ?_)
      refine lv_goto (tgt := 4) hx hb dX8_leastSacks_32 (by decide) ?_
      exact ih1 (x1_3, z_8) _ _ _ (by show (1000 - z_8.toInt).toNat < (1000 - x1_3.toInt).toNat; omega) ⟨(by show 0 ≤ x1_3.toInt; omega), (by show x1_3.toInt ≤ 999; omega), (by show 1 ≤ z_8.toInt; omega), (by show z_8.toInt ≤ 1000; omega), rfl, rfl, lv_sub hl [1, 0, 2, 3] rfl⟩
set_option maxHeartbeats 4000000 in
set_option maxRecDepth 100000 in
theorem t_X8_leastWhole (l : Launch) (D : va_G) (cy : Nat → ClassId) (base : Nat) (τ : Nat → Nat) (G : Gh) (a : Nat) (h_a : τ a = 3) (v : Int32) : MM l yX8_leastWhole cX8_leastWhole 2 (some .long) 2 0 0 D cy [.ref a, .int v] (PT D cy base τ G) (PuL (fun r => True)) noF := by
  refine MM.of (by decide) (Nat.le_of_ble_eq_true rfl) ?_
  intro p e s m below meth c C hPT ls hl
  obtain ⟨hx, hb, hr, hml, hown, hts, hlocks, hK, hnm⟩ := C
  obtain ⟨hZ, hT⟩ := hPT
  have hS : va_S (RA base) s.heap s.heap [] := va_S.rf
  have hl : lv_has ls 2 [(0, .ref a), (1, .int v)] := hl
  refine lv_aload_n hx hb dX8_leastWhole_0 rfl (lv_at hl 0 rfl) ?_
  refine lv_iload_n hx hb dX8_leastWhole_1 rfl (lv_at hl 1 rfl) ?_
  refine lv_aload_n hx hb dX8_leastWhole_2 rfl (lv_at hl 0 rfl) ?_
  refine lv_iload_n hx hb dX8_leastWhole_3 rfl (lv_at hl 1 rfl) ?_
  refine pu_calli (runV (As := [.int v]) (rest := [.int v, .ref a]) ⟨hx, hb, hml, hown, hts⟩ (t_X8_leastSacks l D cy base τ G a h_a v) sV_X8_35 hK (t_recv cf_3 hK hT h_a) ⟨Nat.le_trans hZ hS.1, hT⟩ ⟨Nat.le_of_ble_eq_true rfl, Nat.le_of_ble_eq_true rfl⟩ rfl hl.1 rfl (Nat.le_of_ble_eq_true rfl) dX8_leastWhole_4 ⟨Nat.le_of_ble_eq_true rfl, Nat.le_of_ble_eq_true rfl⟩) (fun r_1 hr_1 => ?_)
  obtain ⟨hr_1_lo, hr_1_hi⟩ := hr_1
  have hr_1_lo : 0 ≤ r_1.toInt := hr_1_lo
  have hr_1_hi : r_1.toInt ≤ 999 := hr_1_hi
  refine pu_calll (runV (As := [.int v, .int r_1]) (rest := []) ⟨hx, hb, hml, hown, hts⟩ (t_X8_whole l D cy base τ G a h_a v r_1) sV_X8_29 hK (t_recv cf_3 hK hT h_a) ⟨Nat.le_trans hZ hS.1, hT⟩ ⟨Nat.le_of_ble_eq_true rfl, Nat.le_of_ble_eq_true rfl⟩ rfl hl.1 rfl (Nat.le_of_ble_eq_true rfl) dX8_leastWhole_7 ⟨Nat.le_of_ble_eq_true rfl, Nat.le_of_ble_eq_true rfl⟩) (fun r_2 hr_2 => ?_)
  exact ret_l hx hb hr hlocks ⟨rfl, _, rfl, trivial⟩ (fun _ h => absurd h List.not_mem_nil) (Nat.le_refl _) (Nat.le_refl _) dX8_leastWhole_10
set_option maxHeartbeats 4000000 in
set_option maxRecDepth 100000 in
theorem t_X8_partsWanting (l : Launch) (D : va_G) (cy : Nat → ClassId) (base : Nat) (τ : Nat → Nat) (G : Gh) (a : Nat) (h_a : τ a = 3) (v : Int32) : MM l yX8_partsWanting cX8_partsWanting 2 (some .long) 0 0 0 D cy [.ref a, .int v] (PT D cy base τ G) (PuL (fun r => True)) noF := by
  refine MM.of (by decide) (Nat.le_of_ble_eq_true rfl) ?_
  intro p e s m below meth c C hPT ls hl
  obtain ⟨hx, hb, hr, hml, hown, hts, hlocks, hK, hnm⟩ := C
  obtain ⟨hZ, hT⟩ := hPT
  have hS : va_S (RA base) s.heap s.heap [] := va_S.rf
  have hl : lv_has ls 2 [(0, .ref a), (1, .int v)] := hl
  refine lv_iload_n hx hb dX8_partsWanting_0 rfl (lv_at hl 1 rfl) ?_
  refine lv_if_lt (tgt := 20) hx hb dX8_partsWanting_1 (by decide) (fun c_1 => ?_) (fun c_1 => ?_)
  · skip
    have tc_1 : v.toInt < 0 := (fa_lt _ _).mp c_1
    refine lv_lconst (v := 0) hx hb dX8_partsWanting_20 (by decide) ?_
    exact ret_l hx hb hr hlocks ⟨rfl, _, rfl, trivial⟩ (fun _ h => absurd h List.not_mem_nil) (Nat.le_refl _) (Nat.le_refl _) dX8_partsWanting_21
  · skip
    have tc_1 : ¬ v.toInt < 0 := fun h => c_1 ((fa_lt _ _).mpr h)
    refine lv_iload_n hx hb dX8_partsWanting_4 rfl (lv_at hl 1 rfl) ?_
    refine lv_sipush (v := 1080) hx hb dX8_partsWanting_5 (by decide) ?_
    refine lv_icmp_gt (tgt := 20) hx hb dX8_partsWanting_8 (by decide) (fun c_2 => ?_) (fun c_2 => ?_)
    · skip
      have tc_2 : 1080 < v.toInt := (fa_lt _ _).mp c_2
      have mc_2 : v.toInt ≤ 2147483647 := max_t v
      refine lv_lconst (v := 0) hx hb dX8_partsWanting_20 (by decide) ?_
      exact ret_l hx hb hr hlocks ⟨rfl, _, rfl, trivial⟩ (fun _ h => absurd h List.not_mem_nil) (Nat.le_refl _) (Nat.le_refl _) dX8_partsWanting_21
    · skip
      have tc_2 : ¬ 1080 < v.toInt := fun h => c_2 ((fa_lt _ _).mpr h)
      refine lv_aload_n hx hb dX8_partsWanting_11 rfl (lv_at hl 0 rfl) ?_
      refine t_getr cf_3 hx hb hts hown hK hT h_a (k := 1) (P := fun q => τ q = 36) rfl (fun _ h9 => h9) fl_X8_18 (fun _ h9 => h9) dX8_partsWanting_12 (fun q_3 eq_3 hq_3 => ?_)
      refine lv_iload_n hx hb dX8_partsWanting_15 rfl (lv_at hl 1 rfl) ?_
      refine t_lald (n := 1081) (i := v) rfl (by decide) hx hb hK hT hq_3 (hT.len hq_3 (by decide)) ⟨by omega, by omega⟩ dX8_partsWanting_16 (fun z_4 ez_4 => ?_)
      refine lv_goto (tgt := 21) hx hb dX8_partsWanting_17 (by decide) ?_
      exact ret_l hx hb hr hlocks ⟨rfl, _, rfl, trivial⟩ (fun _ h => absurd h List.not_mem_nil) (Nat.le_refl _) (Nat.le_refl _) dX8_partsWanting_21
set_option maxHeartbeats 4000000 in
set_option maxRecDepth 100000 in
theorem t_X8_enough (l : Launch) (D : va_G) (cy : Nat → ClassId) (base : Nat) (τ : Nat → Nat) (G : Gh) (a : Nat) (h_a : τ a = 3) (v : Int32) (r_v : 0 ≤ v.toInt ∧ v.toInt ≤ 999) : MM l yX8_enough cX8_enough 5 (some .long) 1 0 0 D cy [.ref a, .int v] (PT D cy base τ G) (PuL (fun r => True)) noF := by
  refine MM.of (by decide) (Nat.le_of_ble_eq_true rfl) ?_
  intro p e s m below meth c C hPT ls hl
  obtain ⟨hx, hb, hr, hml, hown, hts, hlocks, hK, hnm⟩ := C
  obtain ⟨hZ, hT⟩ := hPT
  have hS : va_S (RA base) s.heap s.heap [] := va_S.rf
  have hl : lv_has ls 5 [(0, .ref a), (1, .int v)] := hl
  refine lv_lconst (v := 0) hx hb dX8_enough_0 (by decide) ?_
  refine lv_lstore_n (lv' := [(2, .long 0), (0, .ref a), (1, .int v)]) hx hb dX8_enough_1 rfl hl (by decide) rfl (fun ls hl => ?_)
  refine lv_iconst (v := 0) hx hb dX8_enough_2 (by decide) ?_
  refine lv_istore (lv' := [(4, .int 0), (2, .long 0), (0, .ref a), (1, .int v)]) hx hb dX8_enough_3 hl (by decide) rfl (fun ls hl => ?_)
  refine W.loop (σ := Int64 × Int32) (fun w1 H locs ls => 0 ≤ w1.2.toInt ∧ w1.2.toInt ≤ 1000 ∧ H = s.heap ∧ locs = [] ∧ lv_has ls 5 [(2, .long w1.1), (4, .int w1.2), (0, .ref a), (1, .int v)]) (fun w1 => (1000 - w1.2.toInt).toNat) ?_ ((0 : Int64), (0 : Int32)) _ _ _ ⟨(by show 0 ≤ (0 : Int32).toInt; decide), (by show (0 : Int32).toInt ≤ 1000; decide), rfl, rfl, lv_sub hl [1, 0, 2, 3] rfl⟩
  intro w1 H locs ls hI ih1
  obtain ⟨x1_2, x1_4⟩ := w1
  obtain ⟨i1_0, i1_1, rfl, rfl, hl⟩ := hI
  have i1_0 : 0 ≤ x1_4.toInt := i1_0
  have i1_1 : x1_4.toInt ≤ 1000 := i1_1
  have hl : lv_has ls 5 [(2, .long x1_2), (4, .int x1_4), (0, .ref a), (1, .int v)] := hl
  refine lv_iload hx hb dX8_enough_5 (lv_at hl 1 rfl) ?_
  refine lv_iload_n hx hb dX8_enough_7 rfl (lv_at hl 3 rfl) ?_
  refine lv_icmp_gt (tgt := 26) hx hb dX8_enough_8 (by decide) (fun c_2 => ?_) (fun c_2 => ?_)
  · skip
    have tc_2 : v.toInt < x1_4.toInt := (fa_lt _ _).mp c_2
    refine lv_lload_n hx hb dX8_enough_26 rfl (lv_at hl 0 rfl) ?_
    exact ret_l hx hb hr hlocks ⟨rfl, _, rfl, trivial⟩ (fun _ h => absurd h List.not_mem_nil) (Nat.le_refl _) (Nat.le_refl _) dX8_enough_27
  · skip
    have tc_2 : ¬ v.toInt < x1_4.toInt := fun h => c_2 ((fa_lt _ _).mpr h)
    refine lv_lload_n hx hb dX8_enough_11 rfl (lv_at hl 0 rfl) ?_
    refine lv_aload_n hx hb dX8_enough_12 rfl (lv_at hl 2 rfl) ?_
    refine lv_iload hx hb dX8_enough_13 (lv_at hl 1 rfl) ?_
    refine pu_calll (runV (As := [.int x1_4]) (rest := [.long x1_2]) ⟨hx, hb, hml, hown, hts⟩ (t_X8_partsWanting l D cy base τ G a h_a x1_4) sV_X8_39 hK (t_recv cf_3 hK hT h_a) ⟨Nat.le_trans hZ hS.1, hT⟩ ⟨Nat.le_of_ble_eq_true rfl, Nat.le_of_ble_eq_true rfl⟩ rfl hl.1 rfl (Nat.le_of_ble_eq_true rfl) dX8_enough_15 ⟨Nat.le_of_ble_eq_true rfl, Nat.le_of_ble_eq_true rfl⟩) (fun r_3 hr_3 => ?_)
    refine lv_ladd hx hb dX8_enough_18 ?_
    refine lv_topl (fun z_4 ez_4 => ?_)
    refine lv_lstore_n (lv' := [(2, .long z_4), (4, .int x1_4), (0, .ref a), (1, .int v)]) hx hb dX8_enough_19 rfl hl (by decide) rfl (fun ls hl => ?_)
    obtain ⟨z_5, ez_5⟩ : ∃ y : Int32, y = x1_4 + 1 := ⟨_, rfl⟩
    have tz_5 : z_5.toInt = x1_4.toInt + 1 := add_t ez_5 (show -2147483648 ≤ x1_4.toInt + 1 by omega) (show x1_4.toInt + 1 < 2147483648 by omega)
    refine lv_iinc (v := z_5) (lv' := [(4, .int z_5), (2, .long z_4), (0, .ref a), (1, .int v)]) hx hb dX8_enough_20 hl (k := 1) rfl (by rw [ez_5]; rfl) (by decide) rfl (fun ls hl => ?_)
    refine lv_goto (tgt := 5) hx hb dX8_enough_23 (by decide) ?_
    exact ih1 (z_4, z_5) _ _ _ (by show (1000 - z_5.toInt).toNat < (1000 - x1_4.toInt).toNat; omega) ⟨(by show 0 ≤ z_5.toInt; omega), (by show z_5.toInt ≤ 1000; omega), rfl, rfl, lv_sub hl [1, 0, 2, 3] rfl⟩
set_option maxHeartbeats 4000000 in
set_option maxRecDepth 100000 in
theorem t_X8_packedSacks (l : Launch) (D : va_G) (cy : Nat → ClassId) (base : Nat) (τ : Nat → Nat) (G : Gh) (a : Nat) (h_a : τ a = 3) (v : Int32) : MM l yX8_packedSacks cX8_packedSacks 2 (some .int) 0 0 0 D cy [.ref a, .int v] (PT D cy base τ G) (PuI (fun r => True)) noF := by
  refine MM.of (by decide) (Nat.le_of_ble_eq_true rfl) ?_
  intro p e s m below meth c C hPT ls hl
  obtain ⟨hx, hb, hr, hml, hown, hts, hlocks, hK, hnm⟩ := C
  obtain ⟨hZ, hT⟩ := hPT
  have hS : va_S (RA base) s.heap s.heap [] := va_S.rf
  have hl : lv_has ls 2 [(0, .ref a), (1, .int v)] := hl
  refine lv_iload_n hx hb dX8_packedSacks_0 rfl (lv_at hl 1 rfl) ?_
  refine lv_if_lt (tgt := 18) hx hb dX8_packedSacks_1 (by decide) (fun c_1 => ?_) (fun c_1 => ?_)
  · skip
    have tc_1 : v.toInt < 0 := (fa_lt _ _).mp c_1
    refine lv_iconst (v := 0) hx hb dX8_packedSacks_18 (by decide) ?_
    exact ret_i hx hb hr hlocks ⟨rfl, _, rfl, trivial⟩ (fun _ h => absurd h List.not_mem_nil) (Nat.le_refl _) (Nat.le_refl _) dX8_packedSacks_19
  · skip
    have tc_1 : ¬ v.toInt < 0 := fun h => c_1 ((fa_lt _ _).mpr h)
    refine lv_iload_n hx hb dX8_packedSacks_4 rfl (lv_at hl 1 rfl) ?_
    refine lv_iconst (v := 3) hx hb dX8_packedSacks_5 (by decide) ?_
    refine lv_icmp_ge (tgt := 18) hx hb dX8_packedSacks_6 (by decide) (fun c_2 => ?_) (fun c_2 => ?_)
    · skip
      have tc_2 : 3 ≤ v.toInt := (fa_le _ _).mp c_2
      refine lv_iconst (v := 0) hx hb dX8_packedSacks_18 (by decide) ?_
      exact ret_i hx hb hr hlocks ⟨rfl, _, rfl, trivial⟩ (fun _ h => absurd h List.not_mem_nil) (Nat.le_refl _) (Nat.le_refl _) dX8_packedSacks_19
    · skip
      have tc_2 : ¬ 3 ≤ v.toInt := fun h => c_2 ((fa_le _ _).mpr h)
      refine lv_aload_n hx hb dX8_packedSacks_9 rfl (lv_at hl 0 rfl) ?_
      refine t_getr cf_3 hx hb hts hown hK hT h_a (k := 4) (P := fun q => τ q = 38) rfl (fun _ h9 => h9) fl_X8_25 (fun _ h9 => h9) dX8_packedSacks_10 (fun q_3 eq_3 hq_3 => ?_)
      refine lv_iload_n hx hb dX8_packedSacks_13 rfl (lv_at hl 1 rfl) ?_
      refine t_iald (n := 3) (i := v) rfl (by decide) hx hb hK hT hq_3 (hT.len hq_3 (by decide)) ⟨by omega, by omega⟩ dX8_packedSacks_14 (fun z_4 ez_4 rz_4 => ?_)
      refine lv_goto (tgt := 19) hx hb dX8_packedSacks_15 (by decide) ?_
      exact ret_i hx hb hr hlocks ⟨rfl, _, rfl, trivial⟩ (fun _ h => absurd h List.not_mem_nil) (Nat.le_refl _) (Nat.le_refl _) dX8_packedSacks_19
set_option maxHeartbeats 4000000 in
set_option maxRecDepth 100000 in
theorem t_X8_forget (l : Launch) (D : va_G) (cy : Nat → ClassId) (base : Nat) (τ : Nat → Nat) (G : Gh) (a : Nat) (h_a : τ a = 3) : MM l yX8_forget cX8_forget 1 none 1 0 0 D cy [.ref a] (PT D cy base τ G) (QT D cy base τ G [3, 36] (fun v g => v = none ∧ (True))) (RA base) := by
  refine MM.of (by decide) (Nat.le_of_ble_eq_true rfl) ?_
  intro p e s m below meth c C hPT ls hl
  obtain ⟨hx, hb, hr, hml, hown, hts, hlocks, hK, hnm⟩ := C
  obtain ⟨hZ, hT⟩ := hPT
  have hS : va_S (RA base) s.heap s.heap [] := va_S.rf
  have hF : Fr τ [3, 36] G G := Fr.rf
  have hl : lv_has ls 1 [(0, .ref a)] := hl
  refine lv_aload_n hx hb dX8_forget_0 rfl (lv_at hl 0 rfl) ?_
  refine t_getr cf_3 hx hb hts hown hK hT h_a (k := 1) (P := fun q => τ q = 36) rfl (fun _ h9 => h9) fl_X8_18 (fun _ h9 => h9) dX8_forget_1 (fun q_1 eq_1 hq_1 => ?_)
  refine lv_lconst (v := 0) hx hb dX8_forget_4 (by decide) ?_
  refine t_callv (runS (As := [.ref q_1, .long 0]) (rest := []) ⟨hx, hb, hml, hown, hts⟩ (t_J7_fill_d0a16_36 l D cy base τ G q_1 hq_1 0) sS_X8_92 hK ⟨Nat.le_trans hZ hS.1, hT⟩ ⟨Nat.le_of_ble_eq_true rfl, Nat.le_of_ble_eq_true rfl⟩ rfl hl.1 rfl (Nat.le_of_ble_eq_true rfl) dX8_forget_5 ⟨Nat.le_of_ble_eq_true rfl, Nat.le_of_ble_eq_true rfl⟩) hS (fun G_2 H locs hF_2 hr_2 hT hS => ?_)
  have hF := hF.tr hF_2 rfl
  refine lv_aload_n hx hb dX8_forget_8 rfl (lv_at hl 0 rfl) ?_
  refine lv_iconst (v := 0) hx hb dX8_forget_9 (by decide) ?_
  refine t_puti (x := 0) cf_3 hx hb hts hown hK hT hS h_a (k := 2) rfl (show 0 ≤ (0 : Int32).toInt ∧ (0 : Int32).toInt ≤ 1080 from by decide) fl_X8_98 (fun _ h9 => h9) rfl rfl rfl dX8_forget_10 (fun H locs G_3 eG_3 hT hS => ?_)
  have hF := hF.wI eG_3 h_a rfl
  exact ret_v hx hb hr hlocks ⟨⟨hS.1, hS.2.1⟩, G_3, hF, ⟨rfl, trivial⟩, hT⟩ hS.2.2 (Nat.le_of_ble_eq_true rfl) (Nat.le_of_ble_eq_true rfl) dX8_forget_13
set_option maxHeartbeats 4000000 in
set_option maxRecDepth 100000 in
theorem t_X8_gather (l : Launch) (D : va_G) (cy : Nat → ClassId) (base : Nat) (τ : Nat → Nat) (G : Gh) (a : Nat) (h_a : τ a = 3) (v : Int32) (x : Int64) : MM l yX8_gather cX8_gather 4 none 1 0 0 D cy [.ref a, .int v, .long x] (PT D cy base τ G) (QT D cy base τ G [3, 36] (fun v g => v = none ∧ (True))) (RA base) := by
  refine MM.of (by decide) (Nat.le_of_ble_eq_true rfl) ?_
  intro p e s m below meth c C hPT ls hl
  obtain ⟨hx, hb, hr, hml, hown, hts, hlocks, hK, hnm⟩ := C
  obtain ⟨hZ, hT⟩ := hPT
  have hS : va_S (RA base) s.heap s.heap [] := va_S.rf
  have hF : Fr τ [3, 36] G G := Fr.rf
  have hl : lv_has ls 4 [(0, .ref a), (1, .int v), (2, .long x)] := hl
  refine lv_iload_n hx hb dX8_gather_0 rfl (lv_at hl 1 rfl) ?_
  refine lv_if_lt (tgt := 33) hx hb dX8_gather_1 (by decide) (fun c_1 => ?_) (fun c_1 => ?_)
  · skip
    have tc_1 : v.toInt < 0 := (fa_lt _ _).mp c_1
    exact ret_v hx hb hr hlocks ⟨⟨hS.1, hS.2.1⟩, G, hF, ⟨rfl, trivial⟩, hT⟩ hS.2.2 (Nat.le_of_ble_eq_true rfl) (Nat.le_of_ble_eq_true rfl) dX8_gather_33
  · skip
    have tc_1 : ¬ v.toInt < 0 := fun h => c_1 ((fa_lt _ _).mpr h)
    refine lv_iload_n hx hb dX8_gather_4 rfl (lv_at hl 1 rfl) ?_
    refine lv_sipush (v := 1080) hx hb dX8_gather_5 (by decide) ?_
    refine lv_icmp_gt (tgt := 33) hx hb dX8_gather_8 (by decide) (fun c_2 => ?_) (fun c_2 => ?_)
    · skip
      have tc_2 : 1080 < v.toInt := (fa_lt _ _).mp c_2
      have mc_2 : v.toInt ≤ 2147483647 := max_t v
      exact ret_v hx hb hr hlocks ⟨⟨hS.1, hS.2.1⟩, G, hF, ⟨rfl, trivial⟩, hT⟩ hS.2.2 (Nat.le_of_ble_eq_true rfl) (Nat.le_of_ble_eq_true rfl) dX8_gather_33
    · skip
      have tc_2 : ¬ 1080 < v.toInt := fun h => c_2 ((fa_lt _ _).mpr h)
      refine lv_aload_n hx hb dX8_gather_11 rfl (lv_at hl 0 rfl) ?_
      refine t_getr cf_3 hx hb hts hown hK hT h_a (k := 1) (P := fun q => τ q = 36) rfl (fun _ h9 => h9) fl_X8_18 (fun _ h9 => h9) dX8_gather_12 (fun q_3 eq_3 hq_3 => ?_)
      refine lv_iload_n hx hb dX8_gather_15 rfl (lv_at hl 1 rfl) ?_
      refine lv_dup2_11 hx hb dX8_gather_16 rfl rfl ?_
      refine t_lald (n := 1081) (i := v) rfl (by decide) hx hb hK hT hq_3 (hT.len hq_3 (by decide)) ⟨by omega, by omega⟩ dX8_gather_17 (fun z_4 ez_4 => ?_)
      refine lv_lload_n hx hb dX8_gather_18 rfl (lv_at hl 2 rfl) ?_
      refine lv_ladd hx hb dX8_gather_19 ?_
      refine lv_topl (fun z_5 ez_5 => ?_)
      refine t_last (n := 1081) (i := v) (x := z_5) rfl (by decide) hx hb hK hT hS hq_3 (hT.len hq_3 (by decide)) ⟨by omega, by omega⟩ dX8_gather_20 (fun H locs G_6 eG_6 hT hS => ?_)
      have hF := hF.wL eG_6 hq_3 rfl
      refine lv_aload_n hx hb dX8_gather_21 rfl (lv_at hl 0 rfl) ?_
      refine lv_aload_n hx hb dX8_gather_22 rfl (lv_at hl 0 rfl) ?_
      refine t_geti cf_3 hx hb hts hown hK hT h_a (k := 2) rfl fl_X8_98 (fun _ h9 => h9) dX8_gather_23 (fun z_7 ez_7 rz_7 => ?_)
      have ez_7 : z_7 = G_6.1 a 2 := ez_7
      have rz_7 : 0 ≤ z_7.toInt ∧ z_7.toInt ≤ 1080 := rz_7
      refine lv_iload_n hx hb dX8_gather_26 rfl (lv_at hl 1 rfl) ?_
      refine va_mmax hx hb (by rw [hml]; exact hl.1.symm) hown (hts _ ml_X8_101) (hts _ st_math_max) (hts _ ini_J9) (hts _ co_math_max) (Nat.le_of_ble_eq_true rfl) (Nat.le_of_ble_eq_true rfl) (Nat.le_of_ble_eq_true rfl) (Nat.le_of_ble_eq_true rfl) dX8_gather_27 ?_
      refine lv_topi (fun z_8 ez_8 => ?_)
      have tz_8 : (z_7.toInt ≤ z_8.toInt ∧ v.toInt ≤ z_8.toInt ∧ (z_8.toInt = z_7.toInt ∨ z_8.toInt = v.toInt)) := mmax_t ez_8
      refine t_puti (x := z_8) cf_3 hx hb hts hown hK hT hS h_a (k := 2) rfl (show 0 ≤ z_8.toInt ∧ z_8.toInt ≤ 1080 from ⟨by omega, by omega⟩) fl_X8_98 (fun _ h9 => h9) rfl rfl rfl dX8_gather_30 (fun H locs G_9 eG_9 hT hS => ?_)
      have hF := hF.wI eG_9 h_a rfl
      exact ret_v hx hb hr hlocks ⟨⟨hS.1, hS.2.1⟩, G_9, hF, ⟨rfl, trivial⟩, hT⟩ hS.2.2 (Nat.le_of_ble_eq_true rfl) (Nat.le_of_ble_eq_true rfl) dX8_gather_33
set_option maxHeartbeats 4000000 in
set_option maxRecDepth 100000 in
theorem t_X8_gatherAlone (l : Launch) (D : va_G) (cy : Nat → ClassId) (base : Nat) (τ : Nat → Nat) (G : Gh) (a : Nat) (h_a : τ a = 3) (b : Nat) (h_b : τ b = 7) (v : Int32) (w : Int32) : MM l yX8_gatherAlone cX8_gatherAlone 5 none 3 0 0 D cy [.ref a, .ref b, .int v, .int w] (PT D cy base τ G) (QT D cy base τ G [3, 32, 36] (fun v g => v = none ∧ (True))) (RA base) := by
  refine MM.of (by decide) (Nat.le_of_ble_eq_true rfl) ?_
  intro p e s m below meth c C hPT ls hl
  obtain ⟨hx, hb, hr, hml, hown, hts, hlocks, hK, hnm⟩ := C
  obtain ⟨hZ, hT⟩ := hPT
  have hS : va_S (RA base) s.heap s.heap [] := va_S.rf
  have hF : Fr τ [3, 32, 36] G G := Fr.rf
  have hl : lv_has ls 5 [(0, .ref a), (1, .ref b), (2, .int v), (3, .int w)] := hl
  refine lv_aload_n hx hb dX8_gatherAlone_0 rfl (lv_at hl 0 rfl) ?_
  refine t_getr cf_3 hx hb hts hown hK hT h_a (k := 0) (P := fun q => τ q = 8) rfl (fun _ h9 => h9) fl_X8_12 (fun _ h9 => h9) dX8_gatherAlone_1 (fun q_1 eq_1 hq_1 => ?_)
  refine lv_aload_n hx hb dX8_gatherAlone_4 rfl (lv_at hl 1 rfl) ?_
  refine lv_iload_n hx hb dX8_gatherAlone_5 rfl (lv_at hl 2 rfl) ?_
  refine t_callv (runV (As := [.ref b, .int v]) (rest := []) ⟨hx, hb, hml, hown, hts⟩ (t_X5_followOne l D cy base τ G q_1 hq_1 b h_b v) sV_X8_85 hK (t_recv cf_8 hK hT hq_1) ⟨Nat.le_trans hZ hS.1, hT⟩ ⟨Nat.le_of_ble_eq_true rfl, Nat.le_of_ble_eq_true rfl⟩ rfl hl.1 rfl (Nat.le_of_ble_eq_true rfl) dX8_gatherAlone_6 ⟨Nat.le_of_ble_eq_true rfl, Nat.le_of_ble_eq_true rfl⟩) hS (fun G_2 H locs hF_2 hr_2 hT hS => ?_)
  have hF := hF.tr hF_2 rfl
  refine lv_aload_n hx hb dX8_gatherAlone_9 rfl (lv_at hl 0 rfl) ?_
  refine t_callv (runV (As := []) (rest := []) ⟨hx, hb, hml, hown, hts⟩ (t_X8_forget l D cy base τ G_2 a h_a) sV_X8_54 hK (t_recv cf_3 hK hT h_a) ⟨Nat.le_trans hZ hS.1, hT⟩ ⟨Nat.le_of_ble_eq_true rfl, Nat.le_of_ble_eq_true rfl⟩ rfl hl.1 rfl (Nat.le_of_ble_eq_true rfl) dX8_gatherAlone_10 ⟨Nat.le_of_ble_eq_true rfl, Nat.le_of_ble_eq_true rfl⟩) hS (fun G_3 H locs hF_3 hr_3 hT hS => ?_)
  have hF := hF.tr hF_3 rfl
  refine lv_iconst (v := 0) hx hb dX8_gatherAlone_13 (by decide) ?_
  refine lv_istore (lv' := [(4, .int 0), (0, .ref a), (1, .ref b), (2, .int v), (3, .int w)]) hx hb dX8_gatherAlone_14 hl (by decide) rfl (fun ls hl => ?_)
  refine W.loop (σ := Int32 × Gh) (fun w4 H locs ls => 0 ≤ w4.1.toInt ∧ w4.1.toInt ≤ 61 ∧ Fr τ [3, 32, 36] G w4.2 ∧ TY D cy base τ w4.2 H ∧ va_S (RA base) s.heap H locs ∧ lv_has ls 5 [(4, .int w4.1), (0, .ref a), (1, .ref b), (2, .int v), (3, .int w)]) (fun w4 => (61 - w4.1.toInt).toNat) ?_ ((0 : Int32), G_3) _ _ _ ⟨(by show 0 ≤ (0 : Int32).toInt; decide), (by show (0 : Int32).toInt ≤ 61; decide), hF, hT, hS, lv_sub hl [0, 1, 2, 3, 4] rfl⟩
  intro w4 H locs ls hI ih4
  obtain ⟨x4_4, G_4⟩ := w4
  obtain ⟨i4_0, i4_1, hF, hT, hS, hl⟩ := hI
  have i4_0 : 0 ≤ x4_4.toInt := i4_0
  have i4_1 : x4_4.toInt ≤ 61 := i4_1
  have hF : Fr τ [3, 32, 36] G G_4 := hF
  have hT : TY D cy base τ G_4 H := hT
  have hS : va_S (RA base) s.heap H locs := hS
  have hl : lv_has ls 5 [(4, .int x4_4), (0, .ref a), (1, .ref b), (2, .int v), (3, .int w)] := hl
  refine lv_iload hx hb dX8_gatherAlone_16 (lv_at hl 0 rfl) ?_
  refine lv_aload_n hx hb dX8_gatherAlone_18 rfl (lv_at hl 2 rfl) ?_
  refine t_geti cf_7 hx hb hts hown hK hT h_b (k := 1) rfl fl_X8_57 (fun _ h9 => h9) dX8_gatherAlone_19 (fun z_5 ez_5 rz_5 => ?_)
  have ez_5 : z_5 = G_4.1 b 1 := ez_5
  have rz_5 : 0 ≤ z_5.toInt ∧ z_5.toInt ≤ 60 := rz_5
  have ez_5 : z_5 = G.1 b 1 := ez_5.trans (hF.i h_b (by decide) rfl _)
  refine lv_icmp_gt (tgt := 52) hx hb dX8_gatherAlone_22 (by decide) (fun c_6 => ?_) (fun c_6 => ?_)
  · skip
    have tc_6 : z_5.toInt < x4_4.toInt := (fa_lt _ _).mp c_6
    exact ret_v hx hb hr hlocks ⟨⟨hS.1, hS.2.1⟩, G_4, hF, ⟨rfl, trivial⟩, hT⟩ hS.2.2 (Nat.le_of_ble_eq_true rfl) (Nat.le_of_ble_eq_true rfl) dX8_gatherAlone_52
  · skip
    have tc_6 : ¬ z_5.toInt < x4_4.toInt := fun h => c_6 ((fa_lt _ _).mpr h)
    refine lv_aload_n hx hb dX8_gatherAlone_25 rfl (lv_at hl 1 rfl) ?_
    refine lv_aload_n hx hb dX8_gatherAlone_26 rfl (lv_at hl 2 rfl) ?_
    refine lv_iload_n hx hb dX8_gatherAlone_27 rfl (lv_at hl 3 rfl) ?_
    refine lv_iload_n hx hb dX8_gatherAlone_28 rfl (lv_at hl 4 rfl) ?_
    refine lv_iload hx hb dX8_gatherAlone_29 (lv_at hl 0 rfl) ?_
    refine pu_calli (runV (As := [.int v, .int w, .int x4_4]) (rest := [.ref a]) ⟨hx, hb, hml, hown, hts⟩ (t_X2_wanted l D cy base τ G_4 b h_b v w x4_4) sV_X8_63 hK (t_recv cf_7 hK hT h_b) ⟨Nat.le_trans hZ hS.1, hT⟩ ⟨Nat.le_of_ble_eq_true rfl, Nat.le_of_ble_eq_true rfl⟩ rfl hl.1 rfl (Nat.le_of_ble_eq_true rfl) dX8_gatherAlone_31 ⟨Nat.le_of_ble_eq_true rfl, Nat.le_of_ble_eq_true rfl⟩) (fun r_7 hr_7 => ?_)
    refine lv_aload_n hx hb dX8_gatherAlone_34 rfl (lv_at hl 1 rfl) ?_
    refine t_getr cf_3 hx hb hts hown hK hT h_a (k := 0) (P := fun q => τ q = 8) rfl (fun _ h9 => h9) fl_X8_12 (fun _ h9 => h9) dX8_gatherAlone_35 (fun q_8 eq_8 hq_8 => ?_)
    have w_9 : q_1 = q_8 := Option.some.inj (eq_1.symm.trans ((hF.r h_a (by decide) rfl _).symm.trans eq_8))
    subst w_9
    refine lv_iload hx hb dX8_gatherAlone_38 (lv_at hl 0 rfl) ?_
    refine pu_calll (runV (As := [.int x4_4]) (rest := [.int r_7, .ref a]) ⟨hx, hb, hml, hown, hts⟩ (t_X5_partsOn l D cy base τ G_4 q_1 hq_1 x4_4) sV_X8_89 hK (t_recv cf_8 hK hT hq_1) ⟨Nat.le_trans hZ hS.1, hT⟩ ⟨Nat.le_of_ble_eq_true rfl, Nat.le_of_ble_eq_true rfl⟩ rfl hl.1 rfl (Nat.le_of_ble_eq_true rfl) dX8_gatherAlone_40 ⟨Nat.le_of_ble_eq_true rfl, Nat.le_of_ble_eq_true rfl⟩) (fun r_10 hr_10 => ?_)
    refine t_callv (runV (As := [.int r_7, .long r_10]) (rest := []) ⟨hx, hb, hml, hown, hts⟩ (t_X8_gather l D cy base τ G_4 a h_a r_7 r_10) sV_X8_70 hK (t_recv cf_3 hK hT h_a) ⟨Nat.le_trans hZ hS.1, hT⟩ ⟨Nat.le_of_ble_eq_true rfl, Nat.le_of_ble_eq_true rfl⟩ rfl hl.1 rfl (Nat.le_of_ble_eq_true rfl) dX8_gatherAlone_43 ⟨Nat.le_of_ble_eq_true rfl, Nat.le_of_ble_eq_true rfl⟩) hS (fun G_11 H locs hF_11 hr_11 hT hS => ?_)
    have hF := hF.tr hF_11 rfl
    obtain ⟨z_12, ez_12⟩ : ∃ y : Int32, y = x4_4 + 1 := ⟨_, rfl⟩
    have tz_12 : z_12.toInt = x4_4.toInt + 1 := add_t ez_12 (show -2147483648 ≤ x4_4.toInt + 1 by omega) (show x4_4.toInt + 1 < 2147483648 by omega)
    refine lv_iinc (v := z_12) (lv' := [(4, .int z_12), (0, .ref a), (1, .ref b), (2, .int v), (3, .int w)]) hx hb dX8_gatherAlone_46 hl (k := 0) rfl (by rw [ez_12]; rfl) (by decide) rfl (fun ls hl => ?_)
    refine lv_goto (tgt := 16) hx hb dX8_gatherAlone_49 (by decide) ?_
    exact ih4 (z_12, G_11) _ _ _ (by show (61 - z_12.toInt).toNat < (61 - x4_4.toInt).toNat; omega) ⟨(by show 0 ≤ z_12.toInt; omega), (by show z_12.toInt ≤ 61; omega), hF, hT, hS, lv_sub hl [0, 1, 2, 3, 4] rfl⟩
set_option maxHeartbeats 4000000 in
set_option maxRecDepth 100000 in
theorem t_X8_lossWhole (l : Launch) (D : va_G) (cy : Nat → ClassId) (base : Nat) (τ : Nat → Nat) (G : Gh) (a : Nat) (h_a : τ a = 3) (b : Nat) (h_b : τ b = 7) (v : Int32) (w : Int32) (r_w : 0 ≤ w.toInt) : MM l yX8_lossWhole cX8_lossWhole 8 (some .long) 1 0 0 D cy [.ref a, .ref b, .int v, .int w] (PT D cy base τ G) (PuL (fun r => True)) noF := by
  refine MM.of (by decide) (Nat.le_of_ble_eq_true rfl) ?_
  intro p e s m below meth c C hPT ls hl
  obtain ⟨hx, hb, hr, hml, hown, hts, hlocks, hK, hnm⟩ := C
  obtain ⟨hZ, hT⟩ := hPT
  have hS : va_S (RA base) s.heap s.heap [] := va_S.rf
  have hl : lv_has ls 8 [(0, .ref a), (1, .ref b), (2, .int v), (3, .int w)] := hl
  refine lv_iload_n hx hb dX8_lossWhole_0 rfl (lv_at hl 3 rfl) ?_
  refine lv_sipush (v := 999) hx hb dX8_lossWhole_1 (by decide) ?_
  refine va_mmin hx hb (by rw [hml]; exact hl.1.symm) hown (hts _ ml_X8_125) (hts _ st_math_min) (hts _ ini_J9) (hts _ co_math_min) (Nat.le_of_ble_eq_true rfl) (Nat.le_of_ble_eq_true rfl) (Nat.le_of_ble_eq_true rfl) (Nat.le_of_ble_eq_true rfl) dX8_lossWhole_4 ?_
  refine lv_topi (fun z_1 ez_1 => ?_)
  have tz_1 : (w.toInt ≥ z_1.toInt ∧ 999 ≥ z_1.toInt ∧ (z_1.toInt = w.toInt ∨ z_1.toInt = 999)) := mmin_t ez_1
  refine lv_istore (lv' := [(4, .int z_1), (0, .ref a), (1, .ref b), (2, .int v), (3, .int w)]) hx hb dX8_lossWhole_7 hl (by decide) rfl (fun ls hl => ?_)
  refine lv_lconst (v := 0) hx hb dX8_lossWhole_9 (by decide) ?_
  refine lv_lstore (lv' := [(5, .long 0), (4, .int z_1), (0, .ref a), (1, .ref b), (2, .int v), (3, .int w)]) hx hb dX8_lossWhole_10 hl (by decide) rfl (fun ls hl => ?_)
  refine lv_iload hx hb dX8_lossWhole_12 (lv_at hl 1 rfl) ?_
  refine lv_iconst (v := 1) hx hb dX8_lossWhole_14 (by decide) ?_
  refine lv_iadd hx hb dX8_lossWhole_15 ?_
  refine lv_topi (fun z_2 ez_2 => ?_)
  have tz_2 : z_2.toInt = z_1.toInt + 1 := add_t ez_2 (show -2147483648 ≤ z_1.toInt + 1 by omega) (show z_1.toInt + 1 < 2147483648 by omega)
  refine lv_istore (lv' := [(7, .int z_2), (5, .long 0), (4, .int z_1), (0, .ref a), (1, .ref b), (2, .int v), (3, .int w)]) hx hb dX8_lossWhole_16 hl (by decide) rfl (fun ls hl => ?_)
  refine W.loop (σ := Int64 × Int32) (fun w3 H locs ls => 0 ≤ w3.2.toInt ∧ w3.2.toInt ≤ 1081 ∧ H = s.heap ∧ locs = [] ∧ lv_has ls 8 [(5, .long w3.1), (7, .int w3.2), (4, .int z_1), (0, .ref a), (1, .ref b), (2, .int v), (3, .int w)]) (fun w3 => (1081 - w3.2.toInt).toNat) ?_ ((0 : Int64), z_2) _ _ _ ⟨(by show 0 ≤ z_2.toInt; omega), (by show z_2.toInt ≤ 1081; omega), rfl, rfl, lv_sub hl [1, 0, 2, 3, 4, 5, 6] rfl⟩
  intro w3 H locs ls hI ih3
  obtain ⟨x3_5, x3_7⟩ := w3
  obtain ⟨i3_0, i3_1, rfl, rfl, hl⟩ := hI
  have i3_0 : 0 ≤ x3_7.toInt := i3_0
  have i3_1 : x3_7.toInt ≤ 1081 := i3_1
  have hl : lv_has ls 8 [(5, .long x3_5), (7, .int x3_7), (4, .int z_1), (0, .ref a), (1, .ref b), (2, .int v), (3, .int w)] := hl
  refine lv_iload hx hb dX8_lossWhole_18 (lv_at hl 1 rfl) ?_
  refine lv_aload_n hx hb dX8_lossWhole_20 rfl (lv_at hl 3 rfl) ?_
  refine t_geti cf_3 hx hb hts hown hK hT h_a (k := 2) rfl fl_X8_98 (fun _ h9 => h9) dX8_lossWhole_21 (fun z_4 ez_4 rz_4 => ?_)
  have ez_4 : z_4 = G.1 a 2 := ez_4
  have rz_4 : 0 ≤ z_4.toInt ∧ z_4.toInt ≤ 1080 := rz_4
  refine lv_icmp_gt (tgt := 52) hx hb dX8_lossWhole_24 (by decide) (fun c_5 => ?_) (fun c_5 => ?_)
  · skip
    have tc_5 : z_4.toInt < x3_7.toInt := (fa_lt _ _).mp c_5
    refine lv_aload_n hx hb dX8_lossWhole_52 rfl (lv_at hl 4 rfl) ?_
    refine lv_iload_n hx hb dX8_lossWhole_53 rfl (lv_at hl 5 rfl) ?_
    refine pu_calli (runV (As := [.int v]) (rest := []) ⟨hx, hb, hml, hown, hts⟩ (t_X2_hasThing l D cy base τ G b h_b v) sV_X8_106 hK (t_recv cf_7 hK hT h_b) ⟨Nat.le_trans hZ hS.1, hT⟩ ⟨Nat.le_of_ble_eq_true rfl, Nat.le_of_ble_eq_true rfl⟩ rfl hl.1 rfl (Nat.le_of_ble_eq_true rfl) dX8_lossWhole_54 ⟨Nat.le_of_ble_eq_true rfl, Nat.le_of_ble_eq_true rfl⟩) (fun r_6 hr_6 => ?_)
    have hr_6_c := hr_6
    rcases hr_6_c with hr_6_0 | hr_6_1
    · skip
      obtain ⟨er_6, hr_6_0_f0, hr_6_0_f1⟩ := hr_6_0
      have hr_6_0_f0 : 0 ≤ v.toInt := hr_6_0_f0
      have hr_6_0_f1 : v.toInt ≤ 2 := hr_6_0_f1
      subst er_6
      refine W.eq (g2 := F0 m 57 ls [.int 1]) rfl ?_
      refine lv_if_eq (tgt := 73) hx hb dX8_lossWhole_57 (by decide) (fun c_7 => absurd c_7 (by decide)) (fun _ => ?_)
      refine lv_lload hx hb dX8_lossWhole_60 (lv_at hl 0 rfl) ?_
      refine lv_aload_n hx hb dX8_lossWhole_62 rfl (lv_at hl 4 rfl) ?_
      refine t_getr cf_7 hx hb hts hown hK hT h_b (k := 15) (P := fun q => τ q = 26) rfl (fun _ h9 => h9) fl_X8_122 (fun _ h9 => h9) dX8_lossWhole_63 (fun q_8 eq_8 hq_8 => ?_)
      refine lv_iload_n hx hb dX8_lossWhole_66 rfl (lv_at hl 5 rfl) ?_
      refine t_iald (n := 3) (i := v) rfl (by decide) hx hb hK hT hq_8 (hT.len hq_8 (by decide)) ⟨by omega, by omega⟩ dX8_lossWhole_67 (fun z_9 ez_9 rz_9 => ?_)
      refine lv_i2l hx hb dX8_lossWhole_68 rfl ?_
      refine lv_topl (fun z_10 ez_10 => ?_)
      have tz_10 : z_10.toInt = z_9.toInt := by rw [ez_10]; exact wide_t z_9
      have az_10 := min_t z_9
      have bz_10 := max_t z_9
      refine lv_lmul hx hb dX8_lossWhole_69 ?_
      refine lv_topl (fun z_11 ez_11 => ?_)
      refine lv_goto (tgt := 74) hx hb dX8_lossWhole_70 (by decide) ?_
      exact ret_l hx hb hr hlocks ⟨rfl, _, rfl, trivial⟩ (fun _ h => absurd h List.not_mem_nil) (Nat.le_refl _) (Nat.le_refl _) dX8_lossWhole_74
    · skip
      have er_6 := hr_6_1
      subst er_6
      refine W.eq (g2 := F0 m 57 ls [.int 0]) rfl ?_
      refine lv_if_eq (tgt := 73) hx hb dX8_lossWhole_57 (by decide) (fun _ => ?_) (fun c_12 => absurd (by decide) c_12)
      refine lv_lconst (v := 0) hx hb dX8_lossWhole_73 (by decide) ?_
      exact ret_l hx hb hr hlocks ⟨rfl, _, rfl, trivial⟩ (fun _ h => absurd h List.not_mem_nil) (Nat.le_refl _) (Nat.le_refl _) dX8_lossWhole_74
  · skip
    have tc_5 : ¬ z_4.toInt < x3_7.toInt := fun h => c_5 ((fa_lt _ _).mpr h)
    refine lv_lload hx hb dX8_lossWhole_27 (lv_at hl 0 rfl) ?_
    refine lv_aload_n hx hb dX8_lossWhole_29 rfl (lv_at hl 3 rfl) ?_
    refine t_getr cf_3 hx hb hts hown hK hT h_a (k := 1) (P := fun q => τ q = 36) rfl (fun _ h9 => h9) fl_X8_18 (fun _ h9 => h9) dX8_lossWhole_30 (fun q_13 eq_13 hq_13 => ?_)
    refine lv_iload hx hb dX8_lossWhole_33 (lv_at hl 1 rfl) ?_
    refine t_lald (n := 1081) (i := x3_7) rfl (by decide) hx hb hK hT hq_13 (hT.len hq_13 (by decide)) ⟨by omega, by omega⟩ dX8_lossWhole_35 (fun z_14 ez_14 => ?_)
    refine lv_iload hx hb dX8_lossWhole_36 (lv_at hl 1 rfl) ?_
    refine lv_iload hx hb dX8_lossWhole_38 (lv_at hl 2 rfl) ?_
    refine lv_isub hx hb dX8_lossWhole_40 ?_
    refine lv_topi (fun z_15 ez_15 => ?_)
    have tz_15 : z_15.toInt = x3_7.toInt - z_1.toInt := sub_t ez_15 (show -2147483648 ≤ x3_7.toInt - z_1.toInt by omega) (show x3_7.toInt - z_1.toInt < 2147483648 by omega)
    refine lv_i2l hx hb dX8_lossWhole_41 rfl ?_
    refine lv_topl (fun z_16 ez_16 => ?_)
    have tz_16 : z_16.toInt = z_15.toInt := by rw [ez_16]; exact wide_t z_15
    refine lv_lmul hx hb dX8_lossWhole_42 ?_
    refine lv_topl (fun z_17 ez_17 => ?_)
    refine lv_ladd hx hb dX8_lossWhole_43 ?_
    refine lv_topl (fun z_18 ez_18 => ?_)
    refine lv_lstore (lv' := [(5, .long z_18), (7, .int x3_7), (4, .int z_1), (0, .ref a), (1, .ref b), (2, .int v), (3, .int w)]) hx hb dX8_lossWhole_44 hl (by decide) rfl (fun ls hl => ?_)
    obtain ⟨z_19, ez_19⟩ : ∃ y : Int32, y = x3_7 + 1 := ⟨_, rfl⟩
    have tz_19 : z_19.toInt = x3_7.toInt + 1 := add_t ez_19 (show -2147483648 ≤ x3_7.toInt + 1 by omega) (show x3_7.toInt + 1 < 2147483648 by omega)
    refine lv_iinc (v := z_19) (lv' := [(7, .int z_19), (5, .long z_18), (4, .int z_1), (0, .ref a), (1, .ref b), (2, .int v), (3, .int w)]) hx hb dX8_lossWhole_46 hl (k := 1) rfl (by rw [ez_19]; rfl) (by decide) rfl (fun ls hl => ?_)
    refine lv_goto (tgt := 18) hx hb dX8_lossWhole_49 (by decide) ?_
    exact ih3 (z_18, z_19) _ _ _ (by show (1081 - z_19.toInt).toNat < (1081 - x3_7.toInt).toNat; omega) ⟨(by show 0 ≤ z_19.toInt; omega), (by show z_19.toInt ≤ 1081; omega), rfl, rfl, lv_sub hl [1, 0, 2, 3, 4, 5, 6] rfl⟩
set_option maxHeartbeats 4000000 in
set_option maxRecDepth 100000 in
theorem t_X8_sumUp (l : Launch) (D : va_G) (cy : Nat → ClassId) (base : Nat) (τ : Nat → Nat) (G : Gh) (a : Nat) (h_a : τ a = 3) (b : Nat) (h_b : τ b = 7) (v : Int32) (w : Int32) (z : Int32) : MM l yX8_sumUp cX8_sumUp 10 none 2 0 0 D cy [.ref a, .ref b, .int v, .int w, .int z] (PT D cy base τ G) (QT D cy base τ G [37] (fun v g => v = none ∧ (True))) (RA base) := by
  refine MM.of (by decide) (Nat.le_of_ble_eq_true rfl) ?_
  intro p e s m below meth c C hPT ls hl
  obtain ⟨hx, hb, hr, hml, hown, hts, hlocks, hK, hnm⟩ := C
  obtain ⟨hZ, hT⟩ := hPT
  have hS : va_S (RA base) s.heap s.heap [] := va_S.rf
  have hF : Fr τ [37] G G := Fr.rf
  have hl : lv_has ls 10 [(0, .ref a), (1, .ref b), (2, .int v), (3, .int w), (4, .int z)] := hl
  refine lv_aload_n hx hb dX8_sumUp_0 rfl (lv_at hl 1 rfl) ?_
  refine lv_iload_n hx hb dX8_sumUp_1 rfl (lv_at hl 2 rfl) ?_
  refine pu_calli (runV (As := [.int v]) (rest := []) ⟨hx, hb, hml, hown, hts⟩ (t_X2_hasThing l D cy base τ G b h_b v) sV_X8_106 hK (t_recv cf_7 hK hT h_b) ⟨Nat.le_trans hZ hS.1, hT⟩ ⟨Nat.le_of_ble_eq_true rfl, Nat.le_of_ble_eq_true rfl⟩ rfl hl.1 rfl (Nat.le_of_ble_eq_true rfl) dX8_sumUp_2 ⟨Nat.le_of_ble_eq_true rfl, Nat.le_of_ble_eq_true rfl⟩) (fun r_1 hr_1 => ?_)
  have hr_1_c := hr_1
  rcases hr_1_c with hr_1_0 | hr_1_1
  · skip
    obtain ⟨er_1, hr_1_0_f0, hr_1_0_f1⟩ := hr_1_0
    have hr_1_0_f0 : 0 ≤ v.toInt := hr_1_0_f0
    have hr_1_0_f1 : v.toInt ≤ 2 := hr_1_0_f1
    subst er_1
    refine W.eq (g2 := F0 m 5 ls [.int 1]) rfl ?_
    refine lv_if_eq (tgt := 17) hx hb dX8_sumUp_5 (by decide) (fun c_2 => absurd c_2 (by decide)) (fun _ => ?_)
    refine lv_iload_n hx hb dX8_sumUp_8 rfl (lv_at hl 3 rfl) ?_
    refine lv_if_lt (tgt := 17) hx hb dX8_sumUp_9 (by decide) (fun c_3 => ?_) (fun c_3 => ?_)
    · skip
      have tc_3 : w.toInt < 0 := (fa_lt _ _).mp c_3
      exact ret_v hx hb hr hlocks ⟨⟨hS.1, hS.2.1⟩, G, hF, ⟨rfl, trivial⟩, hT⟩ hS.2.2 (Nat.le_of_ble_eq_true rfl) (Nat.le_of_ble_eq_true rfl) dX8_sumUp_17
    · skip
      have tc_3 : ¬ w.toInt < 0 := fun h => c_3 ((fa_lt _ _).mpr h)
      refine lv_iload_n hx hb dX8_sumUp_12 rfl (lv_at hl 3 rfl) ?_
      refine lv_iconst (v := 3) hx hb dX8_sumUp_13 (by decide) ?_
      refine lv_icmp_lt (tgt := 18) hx hb dX8_sumUp_14 (by decide) (fun c_4 => ?_) (fun c_4 => ?_)
      · skip
        have tc_4 : w.toInt < 3 := (fa_lt _ _).mp c_4
        refine lv_aload_n hx hb dX8_sumUp_18 rfl (lv_at hl 0 rfl) ?_
        refine lv_aload_n hx hb dX8_sumUp_19 rfl (lv_at hl 1 rfl) ?_
        refine lv_iload_n hx hb dX8_sumUp_20 rfl (lv_at hl 2 rfl) ?_
        refine lv_iconst (v := 0) hx hb dX8_sumUp_21 (by decide) ?_
        refine pu_calll (runV (As := [.ref b, .int v, .int 0]) (rest := []) ⟨hx, hb, hml, hown, hts⟩ (t_X8_lossWhole l D cy base τ G a h_a b h_b v 0 (by decide)) sV_X8_110 hK (t_recv cf_3 hK hT h_a) ⟨Nat.le_trans hZ hS.1, hT⟩ ⟨Nat.le_of_ble_eq_true rfl, Nat.le_of_ble_eq_true rfl⟩ rfl hl.1 rfl (Nat.le_of_ble_eq_true rfl) dX8_sumUp_22 ⟨Nat.le_of_ble_eq_true rfl, Nat.le_of_ble_eq_true rfl⟩) (fun r_5 hr_5 => ?_)
        refine lv_lstore (lv' := [(5, .long r_5), (0, .ref a), (1, .ref b), (2, .int v), (3, .int w), (4, .int z)]) hx hb dX8_sumUp_25 hl (by decide) rfl (fun ls hl => ?_)
        refine lv_lconst (v := 0) hx hb dX8_sumUp_27 (by decide) ?_
        refine lv_lstore (lv' := [(7, .long 0), (5, .long r_5), (0, .ref a), (1, .ref b), (2, .int v), (3, .int w), (4, .int z)]) hx hb dX8_sumUp_28 hl (by decide) rfl (fun ls hl => ?_)
        refine lv_iconst (v := 0) hx hb dX8_sumUp_30 (by decide) ?_
        refine lv_istore (lv' := [(9, .int 0), (7, .long 0), (5, .long r_5), (0, .ref a), (1, .ref b), (2, .int v), (3, .int w), (4, .int z)]) hx hb dX8_sumUp_31 hl (by decide) rfl (fun ls hl => ?_)
        refine W.loop (σ := Int64 × Int64 × Int32 × Gh) (fun w6 H locs ls => 0 ≤ w6.2.2.1.toInt ∧ w6.2.2.1.toInt ≤ 1000 ∧ Fr τ [37] G w6.2.2.2 ∧ TY D cy base τ w6.2.2.2 H ∧ va_S (RA base) s.heap H locs ∧ lv_has ls 10 [(5, .long w6.1), (7, .long w6.2.1), (9, .int w6.2.2.1), (0, .ref a), (1, .ref b), (2, .int v), (3, .int w), (4, .int z)]) (fun w6 => (1000 - w6.2.2.1.toInt).toNat) ?_ (r_5, (0 : Int64), (0 : Int32), G) _ _ _ ⟨(by show 0 ≤ (0 : Int32).toInt; decide), (by show (0 : Int32).toInt ≤ 1000; decide), hF, hT, hS, lv_sub hl [2, 1, 0, 3, 4, 5, 6, 7] rfl⟩
        intro w6 H locs ls hI ih6
        obtain ⟨x6_5, x6_7, x6_9, G_6⟩ := w6
        obtain ⟨i6_0, i6_1, hF, hT, hS, hl⟩ := hI
        have i6_0 : 0 ≤ x6_9.toInt := i6_0
        have i6_1 : x6_9.toInt ≤ 1000 := i6_1
        have hF : Fr τ [37] G G_6 := hF
        have hT : TY D cy base τ G_6 H := hT
        have hS : va_S (RA base) s.heap H locs := hS
        have hl : lv_has ls 10 [(5, .long x6_5), (7, .long x6_7), (9, .int x6_9), (0, .ref a), (1, .ref b), (2, .int v), (3, .int w), (4, .int z)] := hl
        refine lv_iload hx hb dX8_sumUp_33 (lv_at hl 2 rfl) ?_
        refine lv_sipush (v := 1000) hx hb dX8_sumUp_35 (by decide) ?_
        refine lv_icmp_ge (tgt := 118) hx hb dX8_sumUp_38 (by decide) (fun c_7 => ?_) (fun c_7 => ?_)
        · skip
          have tc_7 : 1000 ≤ x6_9.toInt := (fa_le _ _).mp c_7
          exact ret_v hx hb hr hlocks ⟨⟨hS.1, hS.2.1⟩, G_6, hF, ⟨rfl, trivial⟩, hT⟩ hS.2.2 (Nat.le_of_ble_eq_true rfl) (Nat.le_of_ble_eq_true rfl) dX8_sumUp_118
        · skip
          have tc_7 : ¬ 1000 ≤ x6_9.toInt := fun h => c_7 ((fa_le _ _).mpr h)
          refine lv_aload_n hx hb dX8_sumUp_41 rfl (lv_at hl 3 rfl) ?_
          refine t_getr cf_3 hx hb hts hown hK hT h_a (k := 3) (P := fun q => τ q = 37) rfl (fun _ h9 => h9) fl_X8_22 (fun _ h9 => h9) dX8_sumUp_42 (fun q_8 eq_8 hq_8 => ?_)
          have eq_8 := (hF.r h_a (by decide) rfl _).symm.trans eq_8
          refine lv_iload_n hx hb dX8_sumUp_45 rfl (lv_at hl 6 rfl) ?_
          refine lv_sipush (v := 1000) hx hb dX8_sumUp_46 (by decide) ?_
          refine lv_imul hx hb dX8_sumUp_49 ?_
          refine lv_topi (fun z_9 ez_9 => ?_)
          have tz_9 : z_9.toInt = w.toInt * 1000 := mul_t ez_9 (show -2147483648 ≤ w.toInt * 1000 by omega) (show w.toInt * 1000 < 2147483648 by omega)
          refine lv_iload hx hb dX8_sumUp_50 (lv_at hl 2 rfl) ?_
          refine lv_iadd hx hb dX8_sumUp_52 ?_
          refine lv_topi (fun z_10 ez_10 => ?_)
          have tz_10 : z_10.toInt = z_9.toInt + x6_9.toInt := add_t ez_10 (show -2147483648 ≤ z_9.toInt + x6_9.toInt by omega) (show z_9.toInt + x6_9.toInt < 2147483648 by omega)
          refine lv_lload hx hb dX8_sumUp_53 (lv_at hl 0 rfl) ?_
          refine t_last (n := 3000) (i := z_10) (x := x6_5) rfl (by decide) hx hb hK hT hS hq_8 (hT.len hq_8 (by decide)) ⟨by omega, by omega⟩ dX8_sumUp_55 (fun H locs G_11 eG_11 hT hS => ?_)
          have hF := hF.wL eG_11 hq_8 rfl
          refine lv_lload hx hb dX8_sumUp_56 (lv_at hl 1 rfl) ?_
          refine lv_aload_n hx hb dX8_sumUp_58 rfl (lv_at hl 3 rfl) ?_
          refine lv_iload hx hb dX8_sumUp_59 (lv_at hl 2 rfl) ?_
          refine pu_calll (runV (As := [.int x6_9]) (rest := [.long x6_7]) ⟨hx, hb, hml, hown, hts⟩ (t_X8_partsWanting l D cy base τ G_11 a h_a x6_9) sV_X8_39 hK (t_recv cf_3 hK hT h_a) ⟨Nat.le_trans hZ hS.1, hT⟩ ⟨Nat.le_of_ble_eq_true rfl, Nat.le_of_ble_eq_true rfl⟩ rfl hl.1 rfl (Nat.le_of_ble_eq_true rfl) dX8_sumUp_61 ⟨Nat.le_of_ble_eq_true rfl, Nat.le_of_ble_eq_true rfl⟩) (fun r_12 hr_12 => ?_)
          refine lv_ladd hx hb dX8_sumUp_64 ?_
          refine lv_topl (fun z_13 ez_13 => ?_)
          refine lv_lstore (lv' := [(7, .long z_13), (5, .long x6_5), (9, .int x6_9), (0, .ref a), (1, .ref b), (2, .int v), (3, .int w), (4, .int z)]) hx hb dX8_sumUp_65 hl (by decide) rfl (fun ls hl => ?_)
          refine lv_lload hx hb dX8_sumUp_67 (lv_at hl 1 rfl) ?_
          refine lv_aload_n hx hb dX8_sumUp_69 rfl (lv_at hl 4 rfl) ?_
          refine t_getr cf_7 hx hb hts hown hK hT h_b (k := 14) (P := fun q => τ q = 26) rfl (fun _ h9 => h9) fl_X8_114 (fun _ h9 => h9) dX8_sumUp_70 (fun q_14 eq_14 hq_14 => ?_)
          have eq_14 := (hF.r h_b (by decide) rfl _).symm.trans eq_14
          refine lv_iload_n hx hb dX8_sumUp_73 rfl (lv_at hl 5 rfl) ?_
          refine t_iald (n := 3) (i := v) rfl (by decide) hx hb hK hT hq_14 (hT.len hq_14 (by decide)) ⟨by omega, by omega⟩ dX8_sumUp_74 (fun z_15 ez_15 rz_15 => ?_)
          have ez_15 : z_15 = G.1 q_14 v.toNatClampNeg := ez_15.trans (hF.i hq_14 (by decide) rfl _)
          refine lv_i2l hx hb dX8_sumUp_75 rfl ?_
          refine lv_topl (fun z_16 ez_16 => ?_)
          have tz_16 : z_16.toInt = z_15.toInt := by rw [ez_16]; exact wide_t z_15
          have az_16 := min_t z_15
          have bz_16 := max_t z_15
          refine lv_ldc2 (v := 1000000000000) hx hb hown (hts _ kl_X8_117) dX8_sumUp_76 ?_
          refine lv_lmul hx hb dX8_sumUp_79 ?_
          refine lv_topl (fun z_17 ez_17 => ?_)
          refine lv_aload_n hx hb dX8_sumUp_80 rfl (lv_at hl 4 rfl) ?_
          refine t_getr cf_7 hx hb hts hown hK hT h_b (k := 16) (P := fun q => τ q = 26) rfl (fun _ h9 => h9) fl_X8_119 (fun _ h9 => h9) dX8_sumUp_81 (fun q_18 eq_18 hq_18 => ?_)
          have eq_18 := (hF.r h_b (by decide) rfl _).symm.trans eq_18
          refine lv_iload_n hx hb dX8_sumUp_84 rfl (lv_at hl 5 rfl) ?_
          refine t_iald (n := 3) (i := v) rfl (by decide) hx hb hK hT hq_18 (hT.len hq_18 (by decide)) ⟨by omega, by omega⟩ dX8_sumUp_85 (fun z_19 ez_19 rz_19 => ?_)
          have ez_19 : z_19 = G.1 q_18 v.toNatClampNeg := ez_19.trans (hF.i hq_18 (by decide) rfl _)
          refine lv_i2l hx hb dX8_sumUp_86 rfl ?_
          refine lv_topl (fun z_20 ez_20 => ?_)
          have tz_20 : z_20.toInt = z_19.toInt := by rw [ez_20]; exact wide_t z_19
          have az_20 := min_t z_19
          have bz_20 := max_t z_19
          refine lv_lload hx hb dX8_sumUp_87 (lv_at hl 0 rfl) ?_
          refine lv_lmul hx hb dX8_sumUp_89 ?_
          refine lv_topl (fun z_21 ez_21 => ?_)
          refine lv_ladd hx hb dX8_sumUp_90 ?_
          refine lv_topl (fun z_22 ez_22 => ?_)
          refine lv_iload hx hb dX8_sumUp_91 (lv_at hl 7 rfl) ?_
          refine lv_aload_n hx hb dX8_sumUp_93 rfl (lv_at hl 4 rfl) ?_
          refine t_getr cf_7 hx hb hts hown hK hT h_b (k := 15) (P := fun q => τ q = 26) rfl (fun _ h9 => h9) fl_X8_122 (fun _ h9 => h9) dX8_sumUp_94 (fun q_23 eq_23 hq_23 => ?_)
          have eq_23 := (hF.r h_b (by decide) rfl _).symm.trans eq_23
          refine lv_iload_n hx hb dX8_sumUp_97 rfl (lv_at hl 5 rfl) ?_
          refine t_iald (n := 3) (i := v) rfl (by decide) hx hb hK hT hq_23 (hT.len hq_23 (by decide)) ⟨by omega, by omega⟩ dX8_sumUp_98 (fun z_24 ez_24 rz_24 => ?_)
          have ez_24 : z_24 = G.1 q_23 v.toNatClampNeg := ez_24.trans (hF.i hq_23 (by decide) rfl _)
          refine lv_isub hx hb dX8_sumUp_99 ?_
          refine lv_topi (fun z_25 ez_25 => ?_)
          refine lv_i2l hx hb dX8_sumUp_100 rfl ?_
          refine lv_topl (fun z_26 ez_26 => ?_)
          have tz_26 : z_26.toInt = z_25.toInt := by rw [ez_26]; exact wide_t z_25
          have az_26 := min_t z_25
          have bz_26 := max_t z_25
          refine lv_ldc2 (v := 1000000000000) hx hb hown (hts _ kl_X8_117) dX8_sumUp_101 ?_
          refine lv_lload hx hb dX8_sumUp_104 (lv_at hl 0 rfl) ?_
          refine lv_lsub hx hb dX8_sumUp_106 ?_
          refine lv_topl (fun z_27 ez_27 => ?_)
          refine lv_lmul hx hb dX8_sumUp_107 ?_
          refine lv_topl (fun z_28 ez_28 => ?_)
          refine lv_ladd hx hb dX8_sumUp_108 ?_
          refine lv_topl (fun z_29 ez_29 => ?_)
          refine lv_ladd hx hb dX8_sumUp_109 ?_
          refine lv_topl (fun z_30 ez_30 => ?_)
          refine lv_lstore (lv' := [(5, .long z_30), (7, .long z_13), (9, .int x6_9), (0, .ref a), (1, .ref b), (2, .int v), (3, .int w), (4, .int z)]) hx hb dX8_sumUp_110 hl (by decide) rfl (fun ls hl => ?_)
          obtain ⟨z_31, ez_31⟩ : ∃ y : Int32, y = x6_9 + 1 := ⟨_, rfl⟩
          have tz_31 : z_31.toInt = x6_9.toInt + 1 := add_t ez_31 (show -2147483648 ≤ x6_9.toInt + 1 by omega) (show x6_9.toInt + 1 < 2147483648 by omega)
          refine lv_iinc (v := z_31) (lv' := [(9, .int z_31), (5, .long z_30), (7, .long z_13), (0, .ref a), (1, .ref b), (2, .int v), (3, .int w), (4, .int z)]) hx hb dX8_sumUp_112 hl (k := 2) rfl (by rw [ez_31]; rfl) (by decide) rfl (fun ls hl => ?_)
          refine lv_goto (tgt := 33) hx hb dX8_sumUp_115 (by decide) ?_
          exact ih6 (z_30, z_13, z_31, G_11) _ _ _ (by show (1000 - z_31.toInt).toNat < (1000 - x6_9.toInt).toNat; omega) ⟨(by show 0 ≤ z_31.toInt; omega), (by show z_31.toInt ≤ 1000; omega), hF, hT, hS, lv_sub hl [1, 2, 0, 3, 4, 5, 6, 7] rfl⟩
      · skip
        have tc_4 : ¬ w.toInt < 3 := fun h => c_4 ((fa_lt _ _).mpr h)
        exact ret_v hx hb hr hlocks ⟨⟨hS.1, hS.2.1⟩, G, hF, ⟨rfl, trivial⟩, hT⟩ hS.2.2 (Nat.le_of_ble_eq_true rfl) (Nat.le_of_ble_eq_true rfl) dX8_sumUp_17
  · skip
    have er_1 := hr_1_1
    subst er_1
    refine W.eq (g2 := F0 m 5 ls [.int 0]) rfl ?_
    refine lv_if_eq (tgt := 17) hx hb dX8_sumUp_5 (by decide) (fun _ => ?_) (fun c_32 => absurd (by decide) c_32)
    exact ret_v hx hb hr hlocks ⟨⟨hS.1, hS.2.1⟩, G, hF, ⟨rfl, trivial⟩, hT⟩ hS.2.2 (Nat.le_of_ble_eq_true rfl) (Nat.le_of_ble_eq_true rfl) dX8_sumUp_17
set_option maxHeartbeats 4000000 in
set_option maxRecDepth 100000 in
theorem t_X8_layAlone (l : Launch) (D : va_G) (cy : Nat → ClassId) (base : Nat) (τ : Nat → Nat) (G : Gh) (a : Nat) (h_a : τ a = 3) (b : Nat) (h_b : τ b = 7) (v : Int32) (w : Int32) : MM l yX8_layAlone cX8_layAlone 4 none 4 0 0 D cy [.ref a, .ref b, .int v, .int w] (PT D cy base τ G) (QT D cy base τ G [3, 32, 36, 37] (fun v g => v = none ∧ (True))) (RA base) := by
  refine MM.of (by decide) (Nat.le_of_ble_eq_true rfl) ?_
  intro p e s m below meth c C hPT ls hl
  obtain ⟨hx, hb, hr, hml, hown, hts, hlocks, hK, hnm⟩ := C
  obtain ⟨hZ, hT⟩ := hPT
  have hS : va_S (RA base) s.heap s.heap [] := va_S.rf
  have hF : Fr τ [3, 32, 36, 37] G G := Fr.rf
  have hl : lv_has ls 4 [(0, .ref a), (1, .ref b), (2, .int v), (3, .int w)] := hl
  refine lv_aload_n hx hb dX8_layAlone_0 rfl (lv_at hl 0 rfl) ?_
  refine lv_aload_n hx hb dX8_layAlone_1 rfl (lv_at hl 1 rfl) ?_
  refine lv_iload_n hx hb dX8_layAlone_2 rfl (lv_at hl 2 rfl) ?_
  refine lv_iload_n hx hb dX8_layAlone_3 rfl (lv_at hl 3 rfl) ?_
  refine t_callv (runV (As := [.ref b, .int v, .int w]) (rest := []) ⟨hx, hb, hml, hown, hts⟩ (t_X8_gatherAlone l D cy base τ G a h_a b h_b v w) sV_X8_43 hK (t_recv cf_3 hK hT h_a) ⟨Nat.le_trans hZ hS.1, hT⟩ ⟨Nat.le_of_ble_eq_true rfl, Nat.le_of_ble_eq_true rfl⟩ rfl hl.1 rfl (Nat.le_of_ble_eq_true rfl) dX8_layAlone_4 ⟨Nat.le_of_ble_eq_true rfl, Nat.le_of_ble_eq_true rfl⟩) hS (fun G_1 H locs hF_1 hr_1 hT hS => ?_)
  have hF := hF.tr hF_1 rfl
  refine lv_aload_n hx hb dX8_layAlone_7 rfl (lv_at hl 0 rfl) ?_
  refine lv_aload_n hx hb dX8_layAlone_8 rfl (lv_at hl 1 rfl) ?_
  refine lv_iload_n hx hb dX8_layAlone_9 rfl (lv_at hl 3 rfl) ?_
  refine lv_iconst (v := 0) hx hb dX8_layAlone_10 (by decide) ?_
  refine lv_iconst (v := 0) hx hb dX8_layAlone_11 (by decide) ?_
  refine t_callv (runV (As := [.ref b, .int w, .int 0, .int 0]) (rest := []) ⟨hx, hb, hml, hown, hts⟩ (t_X8_sumUp l D cy base τ G_1 a h_a b h_b w 0 0) sV_X8_47 hK (t_recv cf_3 hK hT h_a) ⟨Nat.le_trans hZ hS.1, hT⟩ ⟨Nat.le_of_ble_eq_true rfl, Nat.le_of_ble_eq_true rfl⟩ rfl hl.1 rfl (Nat.le_of_ble_eq_true rfl) dX8_layAlone_12 ⟨Nat.le_of_ble_eq_true rfl, Nat.le_of_ble_eq_true rfl⟩) hS (fun G_2 H locs hF_2 hr_2 hT hS => ?_)
  have hF := hF.tr hF_2 rfl
  exact ret_v hx hb hr hlocks ⟨⟨hS.1, hS.2.1⟩, G_2, hF, ⟨rfl, trivial⟩, hT⟩ hS.2.2 (Nat.le_of_ble_eq_true rfl) (Nat.le_of_ble_eq_true rfl) dX8_layAlone_15
set_option maxHeartbeats 4000000 in
set_option maxRecDepth 100000 in
theorem t_X8_layFork (l : Launch) (D : va_G) (cy : Nat → ClassId) (base : Nat) (τ : Nat → Nat) (G : Gh) (a : Nat) (h_a : τ a = 3) (b : Nat) (h_b : τ b = 7) (v : Int32) (w : Int32) (z : Int32) : MM l yX8_layFork cX8_layFork 8 none 5 0 0 D cy [.ref a, .ref b, .int v, .int w, .int z] (PT D cy base τ G) (QT D cy base τ G [3, 33, 34, 36, 37] (fun v g => v = none ∧ (True))) (RA base) := by
  refine MM.of (by decide) (Nat.le_of_ble_eq_true rfl) ?_
  intro p e s m below meth c C hPT ls hl
  obtain ⟨hx, hb, hr, hml, hown, hts, hlocks, hK, hnm⟩ := C
  obtain ⟨hZ, hT⟩ := hPT
  have hS : va_S (RA base) s.heap s.heap [] := va_S.rf
  have hF : Fr τ [3, 33, 34, 36, 37] G G := Fr.rf
  have hl : lv_has ls 8 [(0, .ref a), (1, .ref b), (2, .int v), (3, .int w), (4, .int z)] := hl
  refine lv_aload_n hx hb dX8_layFork_0 rfl (lv_at hl 0 rfl) ?_
  refine t_getr cf_3 hx hb hts hown hK hT h_a (k := 0) (P := fun q => τ q = 8) rfl (fun _ h9 => h9) fl_X8_12 (fun _ h9 => h9) dX8_layFork_1 (fun q_1 eq_1 hq_1 => ?_)
  refine lv_aload_n hx hb dX8_layFork_4 rfl (lv_at hl 1 rfl) ?_
  refine lv_iload_n hx hb dX8_layFork_5 rfl (lv_at hl 2 rfl) ?_
  refine lv_iload_n hx hb dX8_layFork_6 rfl (lv_at hl 3 rfl) ?_
  refine t_callv (runV (As := [.ref b, .int v, .int w]) (rest := []) ⟨hx, hb, hml, hown, hts⟩ (t_X5_followTwo l D cy base τ G q_1 hq_1 b h_b v w) sV_X8_51 hK (t_recv cf_8 hK hT hq_1) ⟨Nat.le_trans hZ hS.1, hT⟩ ⟨Nat.le_of_ble_eq_true rfl, Nat.le_of_ble_eq_true rfl⟩ rfl hl.1 rfl (Nat.le_of_ble_eq_true rfl) dX8_layFork_7 ⟨Nat.le_of_ble_eq_true rfl, Nat.le_of_ble_eq_true rfl⟩) hS (fun G_2 H locs hF_2 hr_2 hT hS => ?_)
  have hF := hF.tr hF_2 rfl
  refine lv_aload_n hx hb dX8_layFork_10 rfl (lv_at hl 0 rfl) ?_
  refine t_callv (runV (As := []) (rest := []) ⟨hx, hb, hml, hown, hts⟩ (t_X8_forget l D cy base τ G_2 a h_a) sV_X8_54 hK (t_recv cf_3 hK hT h_a) ⟨Nat.le_trans hZ hS.1, hT⟩ ⟨Nat.le_of_ble_eq_true rfl, Nat.le_of_ble_eq_true rfl⟩ rfl hl.1 rfl (Nat.le_of_ble_eq_true rfl) dX8_layFork_11 ⟨Nat.le_of_ble_eq_true rfl, Nat.le_of_ble_eq_true rfl⟩) hS (fun G_3 H locs hF_3 hr_3 hT hS => ?_)
  have hF := hF.tr hF_3 rfl
  refine lv_iconst (v := 0) hx hb dX8_layFork_14 (by decide) ?_
  refine lv_istore (lv' := [(5, .int 0), (0, .ref a), (1, .ref b), (2, .int v), (3, .int w), (4, .int z)]) hx hb dX8_layFork_15 hl (by decide) rfl (fun ls hl => ?_)
  refine W.loop (σ := Int32 × Gh) (fun w4 H locs ls => 0 ≤ w4.1.toInt ∧ w4.1.toInt ≤ 61 ∧ Fr τ [3, 33, 34, 36, 37] G w4.2 ∧ TY D cy base τ w4.2 H ∧ va_S (RA base) s.heap H locs ∧ lv_has ls 8 [(5, .int w4.1), (0, .ref a), (1, .ref b), (2, .int v), (3, .int w), (4, .int z)]) (fun w4 => (61 - w4.1.toInt).toNat) ?_ ((0 : Int32), G_3) _ _ _ ⟨(by show 0 ≤ (0 : Int32).toInt; decide), (by show (0 : Int32).toInt ≤ 61; decide), hF, hT, hS, lv_sub hl [0, 1, 2, 3, 4, 5] rfl⟩
  intro w4 H locs ls hI ih4
  obtain ⟨x4_5, G_4⟩ := w4
  obtain ⟨i4_0, i4_1, hF, hT, hS, hl⟩ := hI
  have i4_0 : 0 ≤ x4_5.toInt := i4_0
  have i4_1 : x4_5.toInt ≤ 61 := i4_1
  have hF : Fr τ [3, 33, 34, 36, 37] G G_4 := hF
  have hT : TY D cy base τ G_4 H := hT
  have hS : va_S (RA base) s.heap H locs := hS
  have hl : lv_has ls 8 [(5, .int x4_5), (0, .ref a), (1, .ref b), (2, .int v), (3, .int w), (4, .int z)] := hl
  refine lv_iload hx hb dX8_layFork_17 (lv_at hl 0 rfl) ?_
  refine lv_aload_n hx hb dX8_layFork_19 rfl (lv_at hl 2 rfl) ?_
  refine t_geti cf_7 hx hb hts hown hK hT h_b (k := 1) rfl fl_X8_57 (fun _ h9 => h9) dX8_layFork_20 (fun z_5 ez_5 rz_5 => ?_)
  have ez_5 : z_5 = G_4.1 b 1 := ez_5
  have rz_5 : 0 ≤ z_5.toInt ∧ z_5.toInt ≤ 60 := rz_5
  have ez_5 : z_5 = G.1 b 1 := ez_5.trans (hF.i h_b (by decide) rfl _)
  refine lv_icmp_gt (tgt := 88) hx hb dX8_layFork_23 (by decide) (fun c_6 => ?_) (fun c_6 => ?_)
  · skip
    have tc_6 : z_5.toInt < x4_5.toInt := (fa_lt _ _).mp c_6
    refine lv_aload_n hx hb dX8_layFork_88 rfl (lv_at hl 1 rfl) ?_
    refine lv_aload_n hx hb dX8_layFork_89 rfl (lv_at hl 2 rfl) ?_
    refine lv_iload hx hb dX8_layFork_90 (lv_at hl 5 rfl) ?_
    refine lv_iconst (v := 0) hx hb dX8_layFork_92 (by decide) ?_
    refine lv_aload_n hx hb dX8_layFork_93 rfl (lv_at hl 2 rfl) ?_
    refine t_geti cf_7 hx hb hts hown hK hT h_b (k := 13) rfl fl_X8_74 (fun _ h9 => h9) dX8_layFork_94 (fun z_7 ez_7 rz_7 => ?_)
    have ez_7 : z_7 = G_4.1 b 13 := ez_7
    have ez_7 : z_7 = G.1 b 13 := ez_7.trans (hF.i h_b (by decide) rfl _)
    refine t_callv (runV (As := [.ref b, .int z, .int 0, .int z_7]) (rest := []) ⟨hx, hb, hml, hown, hts⟩ (t_X8_sumUp l D cy base τ G_4 a h_a b h_b z 0 z_7) sV_X8_47 hK (t_recv cf_3 hK hT h_a) ⟨Nat.le_trans hZ hS.1, hT⟩ ⟨Nat.le_of_ble_eq_true rfl, Nat.le_of_ble_eq_true rfl⟩ rfl hl.1 rfl (Nat.le_of_ble_eq_true rfl) dX8_layFork_97 ⟨Nat.le_of_ble_eq_true rfl, Nat.le_of_ble_eq_true rfl⟩) hS (fun G_8 H locs hF_8 hr_8 hT hS => ?_)
    have hF := hF.tr hF_8 rfl
    exact ret_v hx hb hr hlocks ⟨⟨hS.1, hS.2.1⟩, G_8, hF, ⟨rfl, trivial⟩, hT⟩ hS.2.2 (Nat.le_of_ble_eq_true rfl) (Nat.le_of_ble_eq_true rfl) dX8_layFork_100
  · skip
    have tc_6 : ¬ z_5.toInt < x4_5.toInt := fun h => c_6 ((fa_lt _ _).mpr h)
    refine lv_iconst (v := 0) hx hb dX8_layFork_26 (by decide) ?_
    refine lv_istore (lv' := [(6, .int 0), (5, .int x4_5), (0, .ref a), (1, .ref b), (2, .int v), (3, .int w), (4, .int z)]) hx hb dX8_layFork_27 hl (by decide) rfl (fun ls hl => ?_)
    refine W.loop (σ := Int32 × Gh) (fun w9 H locs ls => 0 ≤ w9.1.toInt ∧ w9.1.toInt ≤ 61 ∧ Fr τ [3, 33, 34, 36, 37] G w9.2 ∧ TY D cy base τ w9.2 H ∧ va_S (RA base) s.heap H locs ∧ lv_has ls 8 [(6, .int w9.1), (5, .int x4_5), (0, .ref a), (1, .ref b), (2, .int v), (3, .int w), (4, .int z)]) (fun w9 => (61 - w9.1.toInt).toNat) ?_ ((0 : Int32), G_4) _ _ _ ⟨(by show 0 ≤ (0 : Int32).toInt; decide), (by show (0 : Int32).toInt ≤ 61; decide), hF, hT, hS, lv_sub hl [0, 1, 2, 3, 4, 5, 6] rfl⟩
    intro w9 H locs ls hI ih9
    obtain ⟨x9_6, G_9⟩ := w9
    obtain ⟨i9_0, i9_1, hF, hT, hS, hl⟩ := hI
    have i9_0 : 0 ≤ x9_6.toInt := i9_0
    have i9_1 : x9_6.toInt ≤ 61 := i9_1
    have hF : Fr τ [3, 33, 34, 36, 37] G G_9 := hF
    have hT : TY D cy base τ G_9 H := hT
    have hS : va_S (RA base) s.heap H locs := hS
    have hl : lv_has ls 8 [(6, .int x9_6), (5, .int x4_5), (0, .ref a), (1, .ref b), (2, .int v), (3, .int w), (4, .int z)] := hl
    refine lv_iload hx hb dX8_layFork_29 (lv_at hl 0 rfl) ?_
    refine lv_aload_n hx hb dX8_layFork_31 rfl (lv_at hl 3 rfl) ?_
    refine t_geti cf_7 hx hb hts hown hK hT h_b (k := 1) rfl fl_X8_57 (fun _ h9 => h9) dX8_layFork_32 (fun z_10 ez_10 rz_10 => ?_)
    have w_11 : z_5 = z_10 := ez_5.trans (ez_10.trans (hF.i h_b (by decide) rfl _)).symm
    subst w_11
    refine lv_icmp_gt (tgt := 82) hx hb dX8_layFork_35 (by decide) (fun c_12 => ?_) (fun c_12 => ?_)
    · skip
      have tc_12 : z_5.toInt < x9_6.toInt := (fa_lt _ _).mp c_12
      obtain ⟨z_13, ez_13⟩ : ∃ y : Int32, y = x4_5 + 1 := ⟨_, rfl⟩
      have tz_13 : z_13.toInt = x4_5.toInt + 1 := add_t ez_13 (show -2147483648 ≤ x4_5.toInt + 1 by omega) (show x4_5.toInt + 1 < 2147483648 by omega)
      refine lv_iinc (v := z_13) (lv' := [(5, .int z_13), (6, .int x9_6), (0, .ref a), (1, .ref b), (2, .int v), (3, .int w), (4, .int z)]) hx hb dX8_layFork_82 hl (k := 1) rfl (by rw [ez_13]; rfl) (by decide) rfl (fun ls hl => ?_)
      refine lv_goto (tgt := 17) hx hb dX8_layFork_85 (by decide) ?_
      exact ih4 (z_13, G_9) _ _ _ (by show (61 - z_13.toInt).toNat < (61 - x4_5.toInt).toNat; omega) ⟨(by show 0 ≤ z_13.toInt; omega), (by show z_13.toInt ≤ 61; omega), hF, hT, hS, lv_sub hl [0, 2, 3, 4, 5, 6] rfl⟩
    · skip
      have tc_12 : ¬ z_5.toInt < x9_6.toInt := fun h => c_12 ((fa_lt _ _).mpr h)
      refine lv_aload_n hx hb dX8_layFork_38 rfl (lv_at hl 3 rfl) ?_
      refine lv_iload_n hx hb dX8_layFork_39 rfl (lv_at hl 4 rfl) ?_
      refine lv_iload hx hb dX8_layFork_40 (lv_at hl 6 rfl) ?_
      refine lv_iload hx hb dX8_layFork_42 (lv_at hl 1 rfl) ?_
      refine pu_calli (runV (As := [.int v, .int z, .int x4_5]) (rest := []) ⟨hx, hb, hml, hown, hts⟩ (t_X2_wanted l D cy base τ G_9 b h_b v z x4_5) sV_X8_63 hK (t_recv cf_7 hK hT h_b) ⟨Nat.le_trans hZ hS.1, hT⟩ ⟨Nat.le_of_ble_eq_true rfl, Nat.le_of_ble_eq_true rfl⟩ rfl hl.1 rfl (Nat.le_of_ble_eq_true rfl) dX8_layFork_44 ⟨Nat.le_of_ble_eq_true rfl, Nat.le_of_ble_eq_true rfl⟩) (fun r_14 hr_14 => ?_)
      refine lv_aload_n hx hb dX8_layFork_47 rfl (lv_at hl 3 rfl) ?_
      refine lv_iload_n hx hb dX8_layFork_48 rfl (lv_at hl 5 rfl) ?_
      refine lv_iload hx hb dX8_layFork_49 (lv_at hl 6 rfl) ?_
      refine lv_iload hx hb dX8_layFork_51 (lv_at hl 0 rfl) ?_
      refine pu_calli (runV (As := [.int w, .int z, .int x9_6]) (rest := [.int r_14]) ⟨hx, hb, hml, hown, hts⟩ (t_X2_wanted l D cy base τ G_9 b h_b w z x9_6) sV_X8_63 hK (t_recv cf_7 hK hT h_b) ⟨Nat.le_trans hZ hS.1, hT⟩ ⟨Nat.le_of_ble_eq_true rfl, Nat.le_of_ble_eq_true rfl⟩ rfl hl.1 rfl (Nat.le_of_ble_eq_true rfl) dX8_layFork_53 ⟨Nat.le_of_ble_eq_true rfl, Nat.le_of_ble_eq_true rfl⟩) (fun r_15 hr_15 => ?_)
      refine lv_iadd hx hb dX8_layFork_56 ?_
      refine lv_topi (fun z_16 ez_16 => ?_)
      refine lv_istore (lv' := [(7, .int z_16), (6, .int x9_6), (5, .int x4_5), (0, .ref a), (1, .ref b), (2, .int v), (3, .int w), (4, .int z)]) hx hb dX8_layFork_57 hl (by decide) rfl (fun ls hl => ?_)
      refine lv_aload_n hx hb dX8_layFork_59 rfl (lv_at hl 3 rfl) ?_
      refine lv_iload hx hb dX8_layFork_60 (lv_at hl 0 rfl) ?_
      refine lv_aload_n hx hb dX8_layFork_62 rfl (lv_at hl 3 rfl) ?_
      refine t_getr cf_3 hx hb hts hown hK hT h_a (k := 0) (P := fun q => τ q = 8) rfl (fun _ h9 => h9) fl_X8_12 (fun _ h9 => h9) dX8_layFork_63 (fun q_17 eq_17 hq_17 => ?_)
      have w_18 : q_1 = q_17 := Option.some.inj (eq_1.symm.trans ((hF.r h_a (by decide) rfl _).symm.trans eq_17))
      subst w_18
      refine lv_iload hx hb dX8_layFork_66 (lv_at hl 2 rfl) ?_
      refine lv_iload hx hb dX8_layFork_68 (lv_at hl 1 rfl) ?_
      refine pu_calll (runV (As := [.int x4_5, .int x9_6]) (rest := [.int z_16, .ref a]) ⟨hx, hb, hml, hown, hts⟩ (t_X5_partsOnTwo l D cy base τ G_9 q_1 hq_1 x4_5 x9_6) sV_X8_67 hK (t_recv cf_8 hK hT hq_1) ⟨Nat.le_trans hZ hS.1, hT⟩ ⟨Nat.le_of_ble_eq_true rfl, Nat.le_of_ble_eq_true rfl⟩ rfl hl.1 rfl (Nat.le_of_ble_eq_true rfl) dX8_layFork_70 ⟨Nat.le_of_ble_eq_true rfl, Nat.le_of_ble_eq_true rfl⟩) (fun r_19 hr_19 => ?_)
      refine t_callv (runV (As := [.int z_16, .long r_19]) (rest := []) ⟨hx, hb, hml, hown, hts⟩ (t_X8_gather l D cy base τ G_9 a h_a z_16 r_19) sV_X8_70 hK (t_recv cf_3 hK hT h_a) ⟨Nat.le_trans hZ hS.1, hT⟩ ⟨Nat.le_of_ble_eq_true rfl, Nat.le_of_ble_eq_true rfl⟩ rfl hl.1 rfl (Nat.le_of_ble_eq_true rfl) dX8_layFork_73 ⟨Nat.le_of_ble_eq_true rfl, Nat.le_of_ble_eq_true rfl⟩) hS (fun G_20 H locs hF_20 hr_20 hT hS => ?_)
      have hF := hF.tr hF_20 rfl
      obtain ⟨z_21, ez_21⟩ : ∃ y : Int32, y = x9_6 + 1 := ⟨_, rfl⟩
      have tz_21 : z_21.toInt = x9_6.toInt + 1 := add_t ez_21 (show -2147483648 ≤ x9_6.toInt + 1 by omega) (show x9_6.toInt + 1 < 2147483648 by omega)
      refine lv_iinc (v := z_21) (lv' := [(6, .int z_21), (7, .int z_16), (5, .int x4_5), (0, .ref a), (1, .ref b), (2, .int v), (3, .int w), (4, .int z)]) hx hb dX8_layFork_76 hl (k := 1) rfl (by rw [ez_21]; rfl) (by decide) rfl (fun ls hl => ?_)
      refine lv_goto (tgt := 29) hx hb dX8_layFork_79 (by decide) ?_
      exact ih9 (z_21, G_20) _ _ _ (by show (61 - z_21.toInt).toNat < (61 - x9_6.toInt).toNat; omega) ⟨(by show 0 ≤ z_21.toInt; omega), (by show z_21.toInt ≤ 61; omega), hF, hT, hS, lv_sub hl [0, 2, 3, 4, 5, 6, 7] rfl⟩
set_option maxHeartbeats 4000000 in
set_option maxRecDepth 100000 in
theorem t_X8_layPath (l : Launch) (D : va_G) (cy : Nat → ClassId) (base : Nat) (τ : Nat → Nat) (G : Gh) (a : Nat) (h_a : τ a = 3) (b : Nat) (h_b : τ b = 7) (v : Int32) (w : Int32) (z : Int32) : MM l yX8_layPath cX8_layPath 9 none 5 0 0 D cy [.ref a, .ref b, .int v, .int w, .int z] (PT D cy base τ G) (QT D cy base τ G [3, 33, 34, 36, 37] (fun v g => v = none ∧ (True))) (RA base) := by
  refine MM.of (by decide) (Nat.le_of_ble_eq_true rfl) ?_
  intro p e s m below meth c C hPT ls hl
  obtain ⟨hx, hb, hr, hml, hown, hts, hlocks, hK, hnm⟩ := C
  obtain ⟨hZ, hT⟩ := hPT
  have hS : va_S (RA base) s.heap s.heap [] := va_S.rf
  have hF : Fr τ [3, 33, 34, 36, 37] G G := Fr.rf
  have hl : lv_has ls 9 [(0, .ref a), (1, .ref b), (2, .int v), (3, .int w), (4, .int z)] := hl
  refine lv_aload_n hx hb dX8_layPath_0 rfl (lv_at hl 0 rfl) ?_
  refine t_getr cf_3 hx hb hts hown hK hT h_a (k := 0) (P := fun q => τ q = 8) rfl (fun _ h9 => h9) fl_X8_12 (fun _ h9 => h9) dX8_layPath_1 (fun q_1 eq_1 hq_1 => ?_)
  refine lv_aload_n hx hb dX8_layPath_4 rfl (lv_at hl 1 rfl) ?_
  refine lv_iload_n hx hb dX8_layPath_5 rfl (lv_at hl 2 rfl) ?_
  refine lv_iload_n hx hb dX8_layPath_6 rfl (lv_at hl 3 rfl) ?_
  refine t_callv (runV (As := [.ref b, .int v, .int w]) (rest := []) ⟨hx, hb, hml, hown, hts⟩ (t_X5_followTwo l D cy base τ G q_1 hq_1 b h_b v w) sV_X8_51 hK (t_recv cf_8 hK hT hq_1) ⟨Nat.le_trans hZ hS.1, hT⟩ ⟨Nat.le_of_ble_eq_true rfl, Nat.le_of_ble_eq_true rfl⟩ rfl hl.1 rfl (Nat.le_of_ble_eq_true rfl) dX8_layPath_7 ⟨Nat.le_of_ble_eq_true rfl, Nat.le_of_ble_eq_true rfl⟩) hS (fun G_2 H locs hF_2 hr_2 hT hS => ?_)
  have hF := hF.tr hF_2 rfl
  refine lv_aload_n hx hb dX8_layPath_10 rfl (lv_at hl 0 rfl) ?_
  refine t_callv (runV (As := []) (rest := []) ⟨hx, hb, hml, hown, hts⟩ (t_X8_forget l D cy base τ G_2 a h_a) sV_X8_54 hK (t_recv cf_3 hK hT h_a) ⟨Nat.le_trans hZ hS.1, hT⟩ ⟨Nat.le_of_ble_eq_true rfl, Nat.le_of_ble_eq_true rfl⟩ rfl hl.1 rfl (Nat.le_of_ble_eq_true rfl) dX8_layPath_11 ⟨Nat.le_of_ble_eq_true rfl, Nat.le_of_ble_eq_true rfl⟩) hS (fun G_3 H locs hF_3 hr_3 hT hS => ?_)
  have hF := hF.tr hF_3 rfl
  refine lv_aload_n hx hb dX8_layPath_14 rfl (lv_at hl 1 rfl) ?_
  refine lv_iload_n hx hb dX8_layPath_15 rfl (lv_at hl 2 rfl) ?_
  refine lv_iload hx hb dX8_layPath_16 (lv_at hl 4 rfl) ?_
  refine pu_calli (runV (As := [.int v, .int z]) (rest := []) ⟨hx, hb, hml, hown, hts⟩ (t_X2_eaten l D cy base τ G_3 b h_b v z) sV_X8_77 hK (t_recv cf_7 hK hT h_b) ⟨Nat.le_trans hZ hS.1, hT⟩ ⟨Nat.le_of_ble_eq_true rfl, Nat.le_of_ble_eq_true rfl⟩ rfl hl.1 rfl (Nat.le_of_ble_eq_true rfl) dX8_layPath_18 ⟨Nat.le_of_ble_eq_true rfl, Nat.le_of_ble_eq_true rfl⟩) (fun r_4 hr_4 => ?_)
  refine lv_istore (lv' := [(5, .int r_4), (0, .ref a), (1, .ref b), (2, .int v), (3, .int w), (4, .int z)]) hx hb dX8_layPath_21 hl (by decide) rfl (fun ls hl => ?_)
  refine lv_iconst (v := 0) hx hb dX8_layPath_23 (by decide) ?_
  refine lv_istore (lv' := [(6, .int 0), (5, .int r_4), (0, .ref a), (1, .ref b), (2, .int v), (3, .int w), (4, .int z)]) hx hb dX8_layPath_24 hl (by decide) rfl (fun ls hl => ?_)
  refine W.loop (σ := Int32 × Gh) (fun w5 H locs ls => 0 ≤ w5.1.toInt ∧ w5.1.toInt ≤ 61 ∧ Fr τ [3, 33, 34, 36, 37] G w5.2 ∧ TY D cy base τ w5.2 H ∧ va_S (RA base) s.heap H locs ∧ lv_has ls 9 [(6, .int w5.1), (5, .int r_4), (0, .ref a), (1, .ref b), (2, .int v), (3, .int w), (4, .int z)]) (fun w5 => (61 - w5.1.toInt).toNat) ?_ ((0 : Int32), G_3) _ _ _ ⟨(by show 0 ≤ (0 : Int32).toInt; decide), (by show (0 : Int32).toInt ≤ 61; decide), hF, hT, hS, lv_sub hl [0, 1, 2, 3, 4, 5, 6] rfl⟩
  intro w5 H locs ls hI ih5
  obtain ⟨x5_6, G_5⟩ := w5
  obtain ⟨i5_0, i5_1, hF, hT, hS, hl⟩ := hI
  have i5_0 : 0 ≤ x5_6.toInt := i5_0
  have i5_1 : x5_6.toInt ≤ 61 := i5_1
  have hF : Fr τ [3, 33, 34, 36, 37] G G_5 := hF
  have hT : TY D cy base τ G_5 H := hT
  have hS : va_S (RA base) s.heap H locs := hS
  have hl : lv_has ls 9 [(6, .int x5_6), (5, .int r_4), (0, .ref a), (1, .ref b), (2, .int v), (3, .int w), (4, .int z)] := hl
  refine lv_iload hx hb dX8_layPath_26 (lv_at hl 0 rfl) ?_
  refine lv_aload_n hx hb dX8_layPath_28 rfl (lv_at hl 3 rfl) ?_
  refine t_geti cf_7 hx hb hts hown hK hT h_b (k := 1) rfl fl_X8_57 (fun _ h9 => h9) dX8_layPath_29 (fun z_6 ez_6 rz_6 => ?_)
  have ez_6 : z_6 = G_5.1 b 1 := ez_6
  have rz_6 : 0 ≤ z_6.toInt ∧ z_6.toInt ≤ 60 := rz_6
  have ez_6 : z_6 = G.1 b 1 := ez_6.trans (hF.i h_b (by decide) rfl _)
  refine lv_icmp_gt (tgt := 101) hx hb dX8_layPath_32 (by decide) (fun c_7 => ?_) (fun c_7 => ?_)
  · skip
    have tc_7 : z_6.toInt < x5_6.toInt := (fa_lt _ _).mp c_7
    refine lv_aload_n hx hb dX8_layPath_101 rfl (lv_at hl 2 rfl) ?_
    refine lv_aload_n hx hb dX8_layPath_102 rfl (lv_at hl 3 rfl) ?_
    refine lv_iload hx hb dX8_layPath_103 (lv_at hl 6 rfl) ?_
    refine lv_iconst (v := 0) hx hb dX8_layPath_105 (by decide) ?_
    refine lv_iconst (v := 0) hx hb dX8_layPath_106 (by decide) ?_
    refine t_callv (runV (As := [.ref b, .int z, .int 0, .int 0]) (rest := []) ⟨hx, hb, hml, hown, hts⟩ (t_X8_sumUp l D cy base τ G_5 a h_a b h_b z 0 0) sV_X8_47 hK (t_recv cf_3 hK hT h_a) ⟨Nat.le_trans hZ hS.1, hT⟩ ⟨Nat.le_of_ble_eq_true rfl, Nat.le_of_ble_eq_true rfl⟩ rfl hl.1 rfl (Nat.le_of_ble_eq_true rfl) dX8_layPath_107 ⟨Nat.le_of_ble_eq_true rfl, Nat.le_of_ble_eq_true rfl⟩) hS (fun G_8 H locs hF_8 hr_8 hT hS => ?_)
    have hF := hF.tr hF_8 rfl
    exact ret_v hx hb hr hlocks ⟨⟨hS.1, hS.2.1⟩, G_8, hF, ⟨rfl, trivial⟩, hT⟩ hS.2.2 (Nat.le_of_ble_eq_true rfl) (Nat.le_of_ble_eq_true rfl) dX8_layPath_110
  · skip
    have tc_7 : ¬ z_6.toInt < x5_6.toInt := fun h => c_7 ((fa_lt _ _).mpr h)
    refine lv_iconst (v := 0) hx hb dX8_layPath_35 (by decide) ?_
    refine lv_istore (lv' := [(7, .int 0), (6, .int x5_6), (5, .int r_4), (0, .ref a), (1, .ref b), (2, .int v), (3, .int w), (4, .int z)]) hx hb dX8_layPath_36 hl (by decide) rfl (fun ls hl => ?_)
    refine W.loop (σ := Int32 × Gh) (fun w9 H locs ls => 0 ≤ w9.1.toInt ∧ w9.1.toInt ≤ 61 ∧ Fr τ [3, 33, 34, 36, 37] G w9.2 ∧ TY D cy base τ w9.2 H ∧ va_S (RA base) s.heap H locs ∧ lv_has ls 9 [(7, .int w9.1), (6, .int x5_6), (5, .int r_4), (0, .ref a), (1, .ref b), (2, .int v), (3, .int w), (4, .int z)]) (fun w9 => (61 - w9.1.toInt).toNat) ?_ ((0 : Int32), G_5) _ _ _ ⟨(by show 0 ≤ (0 : Int32).toInt; decide), (by show (0 : Int32).toInt ≤ 61; decide), hF, hT, hS, lv_sub hl [0, 1, 2, 3, 4, 5, 6, 7] rfl⟩
    intro w9 H locs ls hI ih9
    obtain ⟨x9_7, G_9⟩ := w9
    obtain ⟨i9_0, i9_1, hF, hT, hS, hl⟩ := hI
    have i9_0 : 0 ≤ x9_7.toInt := i9_0
    have i9_1 : x9_7.toInt ≤ 61 := i9_1
    have hF : Fr τ [3, 33, 34, 36, 37] G G_9 := hF
    have hT : TY D cy base τ G_9 H := hT
    have hS : va_S (RA base) s.heap H locs := hS
    have hl : lv_has ls 9 [(7, .int x9_7), (6, .int x5_6), (5, .int r_4), (0, .ref a), (1, .ref b), (2, .int v), (3, .int w), (4, .int z)] := hl
    refine lv_iload hx hb dX8_layPath_38 (lv_at hl 0 rfl) ?_
    refine lv_aload_n hx hb dX8_layPath_40 rfl (lv_at hl 4 rfl) ?_
    refine t_geti cf_7 hx hb hts hown hK hT h_b (k := 1) rfl fl_X8_57 (fun _ h9 => h9) dX8_layPath_41 (fun z_10 ez_10 rz_10 => ?_)
    have w_11 : z_6 = z_10 := ez_6.trans (ez_10.trans (hF.i h_b (by decide) rfl _)).symm
    subst w_11
    refine lv_icmp_gt (tgt := 95) hx hb dX8_layPath_44 (by decide) (fun c_12 => ?_) (fun c_12 => ?_)
    · skip
      have tc_12 : z_6.toInt < x9_7.toInt := (fa_lt _ _).mp c_12
      obtain ⟨z_13, ez_13⟩ : ∃ y : Int32, y = x5_6 + 1 := ⟨_, rfl⟩
      have tz_13 : z_13.toInt = x5_6.toInt + 1 := add_t ez_13 (show -2147483648 ≤ x5_6.toInt + 1 by omega) (show x5_6.toInt + 1 < 2147483648 by omega)
      refine lv_iinc (v := z_13) (lv' := [(6, .int z_13), (7, .int x9_7), (5, .int r_4), (0, .ref a), (1, .ref b), (2, .int v), (3, .int w), (4, .int z)]) hx hb dX8_layPath_95 hl (k := 1) rfl (by rw [ez_13]; rfl) (by decide) rfl (fun ls hl => ?_)
      refine lv_goto (tgt := 26) hx hb dX8_layPath_98 (by decide) ?_
      exact ih5 (z_13, G_9) _ _ _ (by show (61 - z_13.toInt).toNat < (61 - x5_6.toInt).toNat; omega) ⟨(by show 0 ≤ z_13.toInt; omega), (by show z_13.toInt ≤ 61; omega), hF, hT, hS, lv_sub hl [0, 2, 3, 4, 5, 6, 7] rfl⟩
    · skip
      have tc_12 : ¬ z_6.toInt < x9_7.toInt := fun h => c_12 ((fa_lt _ _).mpr h)
      refine lv_iload hx hb dX8_layPath_47 (lv_at hl 2 rfl) ?_
      refine lv_aload_n hx hb dX8_layPath_49 rfl (lv_at hl 4 rfl) ?_
      refine lv_iload_n hx hb dX8_layPath_50 rfl (lv_at hl 5 rfl) ?_
      refine lv_iload_n hx hb dX8_layPath_51 rfl (lv_at hl 6 rfl) ?_
      refine lv_iload hx hb dX8_layPath_52 (lv_at hl 1 rfl) ?_
      refine lv_iload hx hb dX8_layPath_54 (lv_at hl 0 rfl) ?_
      refine pu_calli (runV (As := [.int v, .int w, .int x5_6, .int x9_7]) (rest := [.int r_4]) ⟨hx, hb, hml, hown, hts⟩ (t_X2_fedDays l D cy base τ G_9 b h_b v w x5_6 x9_7) sV_X8_81 hK (t_recv cf_7 hK hT h_b) ⟨Nat.le_trans hZ hS.1, hT⟩ ⟨Nat.le_of_ble_eq_true rfl, Nat.le_of_ble_eq_true rfl⟩ rfl hl.1 rfl (Nat.le_of_ble_eq_true rfl) dX8_layPath_56 ⟨Nat.le_of_ble_eq_true rfl, Nat.le_of_ble_eq_true rfl⟩) (fun r_14 hr_14 => ?_)
      refine lv_imul hx hb dX8_layPath_59 ?_
      refine lv_topi (fun z_15 ez_15 => ?_)
      refine lv_istore (lv' := [(8, .int z_15), (7, .int x9_7), (6, .int x5_6), (5, .int r_4), (0, .ref a), (1, .ref b), (2, .int v), (3, .int w), (4, .int z)]) hx hb dX8_layPath_60 hl (by decide) rfl (fun ls hl => ?_)
      refine lv_aload_n hx hb dX8_layPath_62 rfl (lv_at hl 4 rfl) ?_
      refine lv_aload_n hx hb dX8_layPath_63 rfl (lv_at hl 5 rfl) ?_
      refine lv_iload_n hx hb dX8_layPath_64 rfl (lv_at hl 6 rfl) ?_
      refine lv_iload hx hb dX8_layPath_65 (lv_at hl 8 rfl) ?_
      refine lv_iload hx hb dX8_layPath_67 (lv_at hl 2 rfl) ?_
      refine pu_calli (runV (As := [.int v, .int z, .int x5_6]) (rest := [.ref a]) ⟨hx, hb, hml, hown, hts⟩ (t_X2_wanted l D cy base τ G_9 b h_b v z x5_6) sV_X8_63 hK (t_recv cf_7 hK hT h_b) ⟨Nat.le_trans hZ hS.1, hT⟩ ⟨Nat.le_of_ble_eq_true rfl, Nat.le_of_ble_eq_true rfl⟩ rfl hl.1 rfl (Nat.le_of_ble_eq_true rfl) dX8_layPath_69 ⟨Nat.le_of_ble_eq_true rfl, Nat.le_of_ble_eq_true rfl⟩) (fun r_16 hr_16 => ?_)
      refine lv_iload hx hb dX8_layPath_72 (lv_at hl 0 rfl) ?_
      refine lv_isub hx hb dX8_layPath_74 ?_
      refine lv_topi (fun z_17 ez_17 => ?_)
      refine lv_aload_n hx hb dX8_layPath_75 rfl (lv_at hl 4 rfl) ?_
      refine t_getr cf_3 hx hb hts hown hK hT h_a (k := 0) (P := fun q => τ q = 8) rfl (fun _ h9 => h9) fl_X8_12 (fun _ h9 => h9) dX8_layPath_76 (fun q_18 eq_18 hq_18 => ?_)
      have w_19 : q_1 = q_18 := Option.some.inj (eq_1.symm.trans ((hF.r h_a (by decide) rfl _).symm.trans eq_18))
      subst w_19
      refine lv_iload hx hb dX8_layPath_79 (lv_at hl 2 rfl) ?_
      refine lv_iload hx hb dX8_layPath_81 (lv_at hl 1 rfl) ?_
      refine pu_calll (runV (As := [.int x5_6, .int x9_7]) (rest := [.int z_17, .ref a]) ⟨hx, hb, hml, hown, hts⟩ (t_X5_partsOnTwo l D cy base τ G_9 q_1 hq_1 x5_6 x9_7) sV_X8_67 hK (t_recv cf_8 hK hT hq_1) ⟨Nat.le_trans hZ hS.1, hT⟩ ⟨Nat.le_of_ble_eq_true rfl, Nat.le_of_ble_eq_true rfl⟩ rfl hl.1 rfl (Nat.le_of_ble_eq_true rfl) dX8_layPath_83 ⟨Nat.le_of_ble_eq_true rfl, Nat.le_of_ble_eq_true rfl⟩) (fun r_20 hr_20 => ?_)
      refine t_callv (runV (As := [.int z_17, .long r_20]) (rest := []) ⟨hx, hb, hml, hown, hts⟩ (t_X8_gather l D cy base τ G_9 a h_a z_17 r_20) sV_X8_70 hK (t_recv cf_3 hK hT h_a) ⟨Nat.le_trans hZ hS.1, hT⟩ ⟨Nat.le_of_ble_eq_true rfl, Nat.le_of_ble_eq_true rfl⟩ rfl hl.1 rfl (Nat.le_of_ble_eq_true rfl) dX8_layPath_86 ⟨Nat.le_of_ble_eq_true rfl, Nat.le_of_ble_eq_true rfl⟩) hS (fun G_21 H locs hF_21 hr_21 hT hS => ?_)
      have hF := hF.tr hF_21 rfl
      obtain ⟨z_22, ez_22⟩ : ∃ y : Int32, y = x9_7 + 1 := ⟨_, rfl⟩
      have tz_22 : z_22.toInt = x9_7.toInt + 1 := add_t ez_22 (show -2147483648 ≤ x9_7.toInt + 1 by omega) (show x9_7.toInt + 1 < 2147483648 by omega)
      refine lv_iinc (v := z_22) (lv' := [(7, .int z_22), (8, .int z_15), (6, .int x5_6), (5, .int r_4), (0, .ref a), (1, .ref b), (2, .int v), (3, .int w), (4, .int z)]) hx hb dX8_layPath_89 hl (k := 1) rfl (by rw [ez_22]; rfl) (by decide) rfl (fun ls hl => ?_)
      refine lv_goto (tgt := 38) hx hb dX8_layPath_92 (by decide) ?_
      exact ih9 (z_22, G_21) _ _ _ (by show (61 - z_22.toInt).toNat < (61 - x9_7.toInt).toNat; omega) ⟨(by show 0 ≤ z_22.toInt; omega), (by show z_22.toInt ≤ 61; omega), hF, hT, hS, lv_sub hl [0, 2, 3, 4, 5, 6, 7, 8] rfl⟩
set_option maxHeartbeats 4000000 in
set_option maxRecDepth 100000 in
theorem t_X8_harmWithPlanes (l : Launch) (D : va_G) (cy : Nat → ClassId) (base : Nat) (τ : Nat → Nat) (G : Gh) (b : Nat) (h_b : τ b = 7) (x : Int64) (v : Int32) : MM l yX8_harmWithPlanes cX8_harmWithPlanes 9 (some .long) 1 0 0 D cy [.ref b, .long x, .int v] (PT D cy base τ G) (PuL (fun r => True)) noF := by
  refine MM.of (by decide) (Nat.le_of_ble_eq_true rfl) ?_
  intro p e s m below meth c C hPT ls hl
  obtain ⟨hx, hb, hr, hml, hown, hts, hlocks, hK, hnm⟩ := C
  obtain ⟨hZ, hT⟩ := hPT
  have hS : va_S (RA base) s.heap s.heap [] := va_S.rf
  have hl : lv_has ls 9 [(0, .ref b), (1, .long x), (3, .int v)] := hl
  refine lv_aload_n hx hb dX8_harmWithPlanes_0 rfl (lv_at hl 0 rfl) ?_
  refine t_geti cf_7 hx hb hts hown hK hT h_b (k := 11) rfl fl_X8_132 (fun _ h9 => h9) dX8_harmWithPlanes_1 (fun z_1 ez_1 rz_1 => ?_)
  have ez_1 : z_1 = G.1 b 11 := ez_1
  refine lv_istore (lv' := [(4, .int z_1), (0, .ref b), (1, .long x), (3, .int v)]) hx hb dX8_harmWithPlanes_4 hl (by decide) rfl (fun ls hl => ?_)
  refine lv_iload hx hb dX8_harmWithPlanes_6 (lv_at hl 0 rfl) ?_
  refine lv_iconst (v := 1) hx hb dX8_harmWithPlanes_8 (by decide) ?_
  refine lv_icmp_ge (tgt := 17) hx hb dX8_harmWithPlanes_9 (by decide) (fun c_2 => ?_) (fun c_2 => ?_)
  · skip
    have tc_2 : 1 ≤ z_1.toInt := (fa_le _ _).mp c_2
    refine lv_aload_n hx hb dX8_harmWithPlanes_17 rfl (lv_at hl 1 rfl) ?_
    refine t_geti cf_7 hx hb hts hown hK hT h_b (k := 12) rfl fl_X8_135 (fun _ h9 => h9) dX8_harmWithPlanes_18 (fun z_3 ez_3 rz_3 => ?_)
    have ez_3 : z_3 = G.1 b 12 := ez_3
    refine lv_i2l hx hb dX8_harmWithPlanes_21 rfl ?_
    refine lv_topl (fun z_4 ez_4 => ?_)
    have tz_4 : z_4.toInt = z_3.toInt := by rw [ez_4]; exact wide_t z_3
    have az_4 := min_t z_3
    have bz_4 := max_t z_3
    refine lv_lload_n hx hb dX8_harmWithPlanes_22 rfl (lv_at hl 2 rfl) ?_
    refine lv_iload hx hb dX8_harmWithPlanes_23 (lv_at hl 0 rfl) ?_
    refine lv_i2l hx hb dX8_harmWithPlanes_25 rfl ?_
    refine lv_topl (fun z_5 ez_5 => ?_)
    have tz_5 : z_5.toInt = z_1.toInt := by rw [ez_5]; exact wide_t z_1
    have bz_5 := max_t z_1
    refine lv_lmul hx hb dX8_harmWithPlanes_26 ?_
    refine lv_topl (fun z_6 ez_6 => ?_)
    refine va_mmin_long hx hb (by rw [hml]; exact hl.1.symm) hown (hts _ ml_X8_138) (hts _ st_math_minl) (hts _ ini_J9) (hts _ co_math_minl) (Nat.le_of_ble_eq_true rfl) (Nat.le_of_ble_eq_true rfl) (Nat.le_of_ble_eq_true rfl) (Nat.le_of_ble_eq_true rfl) dX8_harmWithPlanes_27 ?_
    refine lv_topl (fun z_7 ez_7 => ?_)
    refine lv_lstore (lv' := [(5, .long z_7), (4, .int z_1), (0, .ref b), (1, .long x), (3, .int v)]) hx hb dX8_harmWithPlanes_30 hl (by decide) rfl (fun ls hl => ?_)
    refine lv_aload_n hx hb dX8_harmWithPlanes_32 rfl (lv_at hl 2 rfl) ?_
    refine t_geti cf_7 hx hb hts hown hK hT h_b (k := 12) rfl fl_X8_135 (fun _ h9 => h9) dX8_harmWithPlanes_33 (fun z_8 ez_8 rz_8 => ?_)
    have w_9 : z_3 = z_8 := ez_3.trans ez_8.symm
    subst w_9
    refine lv_i2l hx hb dX8_harmWithPlanes_36 rfl ?_
    refine lv_topl (fun z_10 ez_10 => ?_)
    have tz_10 : z_10.toInt = z_3.toInt := by rw [ez_10]; exact wide_t z_3
    have az_10 := min_t z_3
    have bz_10 := max_t z_3
    refine lv_lload_n hx hb dX8_harmWithPlanes_37 rfl (lv_at hl 3 rfl) ?_
    refine lv_iload_n hx hb dX8_harmWithPlanes_38 rfl (lv_at hl 4 rfl) ?_
    refine lv_iload hx hb dX8_harmWithPlanes_39 (lv_at hl 1 rfl) ?_
    refine lv_irem hx hb dX8_harmWithPlanes_41 (ne0_i (by omega)) ?_
    refine lv_topi (fun z_11 ez_11 => ?_)
    refine lv_i2l hx hb dX8_harmWithPlanes_42 rfl ?_
    refine lv_topl (fun z_12 ez_12 => ?_)
    have tz_12 : z_12.toInt = z_11.toInt := by rw [ez_12]; exact wide_t z_11
    have az_12 := min_t z_11
    have bz_12 := max_t z_11
    refine lv_lmul hx hb dX8_harmWithPlanes_43 ?_
    refine lv_topl (fun z_13 ez_13 => ?_)
    refine va_mmin_long hx hb (by rw [hml]; exact hl.1.symm) hown (hts _ ml_X8_138) (hts _ st_math_minl) (hts _ ini_J9) (hts _ co_math_minl) (Nat.le_of_ble_eq_true rfl) (Nat.le_of_ble_eq_true rfl) (Nat.le_of_ble_eq_true rfl) (Nat.le_of_ble_eq_true rfl) dX8_harmWithPlanes_44 ?_
    refine lv_topl (fun z_14 ez_14 => ?_)
    refine lv_lstore (lv' := [(7, .long z_14), (5, .long z_7), (4, .int z_1), (0, .ref b), (1, .long x), (3, .int v)]) hx hb dX8_harmWithPlanes_47 hl (by decide) rfl (fun ls hl => ?_)
    refine lv_iload_n hx hb dX8_harmWithPlanes_49 rfl (lv_at hl 5 rfl) ?_
    refine lv_iload hx hb dX8_harmWithPlanes_50 (lv_at hl 2 rfl) ?_
    refine lv_idiv hx hb dX8_harmWithPlanes_52 (ne0_i (by omega)) ?_
    refine lv_topi (fun z_15 ez_15 => ?_)
    refine lv_i2l hx hb dX8_harmWithPlanes_53 rfl ?_
    refine lv_topl (fun z_16 ez_16 => ?_)
    have tz_16 : z_16.toInt = z_15.toInt := by rw [ez_16]; exact wide_t z_15
    have az_16 := min_t z_15
    have bz_16 := max_t z_15
    refine lv_lload hx hb dX8_harmWithPlanes_54 (lv_at hl 1 rfl) ?_
    refine lv_lmul hx hb dX8_harmWithPlanes_56 ?_
    refine lv_topl (fun z_17 ez_17 => ?_)
    refine lv_lload hx hb dX8_harmWithPlanes_57 (lv_at hl 0 rfl) ?_
    refine lv_ladd hx hb dX8_harmWithPlanes_59 ?_
    refine lv_topl (fun z_18 ez_18 => ?_)
    exact ret_l hx hb hr hlocks ⟨rfl, _, rfl, trivial⟩ (fun _ h => absurd h List.not_mem_nil) (Nat.le_refl _) (Nat.le_refl _) dX8_harmWithPlanes_60
  · skip
    have tc_2 : ¬ 1 ≤ z_1.toInt := fun h => c_2 ((fa_le _ _).mpr h)
    refine lv_lload_n hx hb dX8_harmWithPlanes_12 rfl (lv_at hl 2 rfl) ?_
    refine lv_iload_n hx hb dX8_harmWithPlanes_13 rfl (lv_at hl 3 rfl) ?_
    refine lv_i2l hx hb dX8_harmWithPlanes_14 rfl ?_
    refine lv_topl (fun z_19 ez_19 => ?_)
    have tz_19 : z_19.toInt = v.toInt := by rw [ez_19]; exact wide_t v
    have az_19 := min_t v
    have bz_19 := max_t v
    refine lv_lmul hx hb dX8_harmWithPlanes_15 ?_
    refine lv_topl (fun z_20 ez_20 => ?_)
    exact ret_l hx hb hr hlocks ⟨rfl, _, rfl, trivial⟩ (fun _ h => absurd h List.not_mem_nil) (Nat.le_refl _) (Nat.le_refl _) dX8_harmWithPlanes_16
set_option maxHeartbeats 4000000 in
set_option maxRecDepth 100000 in
theorem t_X8_flownWhole (l : Launch) (D : va_G) (cy : Nat → ClassId) (base : Nat) (τ : Nat → Nat) (G : Gh) (a : Nat) (h_a : τ a = 3) (b : Nat) (h_b : τ b = 7) (v : Int32) (w : Int32) : MM l yX8_flownWhole cX8_flownWhole 11 (some .long) 2 0 0 D cy [.ref a, .ref b, .int v, .int w] (PT D cy base τ G) (PuL (fun r => True)) noF := by
  refine MM.of (by decide) (Nat.le_of_ble_eq_true rfl) ?_
  intro p e s m below meth c C hPT ls hl
  obtain ⟨hx, hb, hr, hml, hown, hts, hlocks, hK, hnm⟩ := C
  obtain ⟨hZ, hT⟩ := hPT
  have hS : va_S (RA base) s.heap s.heap [] := va_S.rf
  have hl : lv_has ls 11 [(0, .ref a), (1, .ref b), (2, .int v), (3, .int w)] := hl
  refine lv_aload_n hx hb dX8_flownWhole_0 rfl (lv_at hl 1 rfl) ?_
  refine lv_iload_n hx hb dX8_flownWhole_1 rfl (lv_at hl 2 rfl) ?_
  refine pu_calli (runV (As := [.int v]) (rest := []) ⟨hx, hb, hml, hown, hts⟩ (t_X2_hasThing l D cy base τ G b h_b v) sV_X8_106 hK (t_recv cf_7 hK hT h_b) ⟨Nat.le_trans hZ hS.1, hT⟩ ⟨Nat.le_of_ble_eq_true rfl, Nat.le_of_ble_eq_true rfl⟩ rfl hl.1 rfl (Nat.le_of_ble_eq_true rfl) dX8_flownWhole_2 ⟨Nat.le_of_ble_eq_true rfl, Nat.le_of_ble_eq_true rfl⟩) (fun r_1 hr_1 => ?_)
  have hr_1_c := hr_1
  rcases hr_1_c with hr_1_0 | hr_1_1
  · skip
    obtain ⟨er_1, hr_1_0_f0, hr_1_0_f1⟩ := hr_1_0
    have hr_1_0_f0 : 0 ≤ v.toInt := hr_1_0_f0
    have hr_1_0_f1 : v.toInt ≤ 2 := hr_1_0_f1
    subst er_1
    refine W.eq (g2 := F0 m 5 ls [.int 1]) rfl ?_
    refine lv_if_ne (tgt := 10) hx hb dX8_flownWhole_5 (by decide) (fun _ => ?_) (fun c_2 => absurd c_2 (by decide))
    refine lv_ldc2 (v := 1000000000000) hx hb hown (hts _ kl_X8_117) dX8_flownWhole_10 ?_
    refine lv_aload_n hx hb dX8_flownWhole_13 rfl (lv_at hl 1 rfl) ?_
    refine t_getr cf_7 hx hb hts hown hK hT h_b (k := 14) (P := fun q => τ q = 26) rfl (fun _ h9 => h9) fl_X8_114 (fun _ h9 => h9) dX8_flownWhole_14 (fun q_3 eq_3 hq_3 => ?_)
    refine lv_iload_n hx hb dX8_flownWhole_17 rfl (lv_at hl 2 rfl) ?_
    refine t_iald (n := 3) (i := v) rfl (by decide) hx hb hK hT hq_3 (hT.len hq_3 (by decide)) ⟨by omega, by omega⟩ dX8_flownWhole_18 (fun z_4 ez_4 rz_4 => ?_)
    refine lv_i2l hx hb dX8_flownWhole_19 rfl ?_
    refine lv_topl (fun z_5 ez_5 => ?_)
    have tz_5 : z_5.toInt = z_4.toInt := by rw [ez_5]; exact wide_t z_4
    have az_5 := min_t z_4
    have bz_5 := max_t z_4
    refine lv_lmul hx hb dX8_flownWhole_20 ?_
    refine lv_topl (fun z_6 ez_6 => ?_)
    refine lv_iload_n hx hb dX8_flownWhole_21 rfl (lv_at hl 3 rfl) ?_
    refine lv_i2l hx hb dX8_flownWhole_22 rfl ?_
    refine lv_topl (fun z_7 ez_7 => ?_)
    have tz_7 : z_7.toInt = w.toInt := by rw [ez_7]; exact wide_t w
    have az_7 := min_t w
    have bz_7 := max_t w
    refine lv_lmul hx hb dX8_flownWhole_23 ?_
    refine lv_topl (fun z_8 ez_8 => ?_)
    refine lv_lstore (lv' := [(4, .long z_8), (0, .ref a), (1, .ref b), (2, .int v), (3, .int w)]) hx hb dX8_flownWhole_24 hl (by decide) rfl (fun ls hl => ?_)
    refine lv_iconst (v := 0) hx hb dX8_flownWhole_26 (by decide) ?_
    refine lv_istore (lv' := [(6, .int 0), (4, .long z_8), (0, .ref a), (1, .ref b), (2, .int v), (3, .int w)]) hx hb dX8_flownWhole_27 hl (by decide) rfl (fun ls hl => ?_)
    refine W.loop (σ := Int64 × Int32) (fun w9 H locs ls => 0 ≤ w9.2.toInt ∧ w9.2.toInt ≤ 1081 ∧ H = s.heap ∧ locs = [] ∧ lv_has ls 11 [(4, .long w9.1), (6, .int w9.2), (0, .ref a), (1, .ref b), (2, .int v), (3, .int w)]) (fun w9 => (1081 - w9.2.toInt).toNat) ?_ (z_8, (0 : Int32)) _ _ _ ⟨(by show 0 ≤ (0 : Int32).toInt; decide), (by show (0 : Int32).toInt ≤ 1081; decide), rfl, rfl, lv_sub hl [1, 0, 2, 3, 4, 5] rfl⟩
    intro w9 H locs ls hI ih9
    obtain ⟨x9_4, x9_6⟩ := w9
    obtain ⟨i9_0, i9_1, rfl, rfl, hl⟩ := hI
    have i9_0 : 0 ≤ x9_6.toInt := i9_0
    have i9_1 : x9_6.toInt ≤ 1081 := i9_1
    have hl : lv_has ls 11 [(4, .long x9_4), (6, .int x9_6), (0, .ref a), (1, .ref b), (2, .int v), (3, .int w)] := hl
    refine lv_iload hx hb dX8_flownWhole_29 (lv_at hl 1 rfl) ?_
    refine lv_aload_n hx hb dX8_flownWhole_31 rfl (lv_at hl 2 rfl) ?_
    refine t_geti cf_3 hx hb hts hown hK hT h_a (k := 2) rfl fl_X8_98 (fun _ h9 => h9) dX8_flownWhole_32 (fun z_10 ez_10 rz_10 => ?_)
    have ez_10 : z_10 = G.1 a 2 := ez_10
    have rz_10 : 0 ≤ z_10.toInt ∧ z_10.toInt ≤ 1080 := rz_10
    refine lv_icmp_gt (tgt := 114) hx hb dX8_flownWhole_35 (by decide) (fun c_11 => ?_) (fun c_11 => ?_)
    · skip
      have tc_11 : z_10.toInt < x9_6.toInt := (fa_lt _ _).mp c_11
      refine lv_lload hx hb dX8_flownWhole_114 (lv_at hl 0 rfl) ?_
      exact ret_l hx hb hr hlocks ⟨rfl, _, rfl, trivial⟩ (fun _ h => absurd h List.not_mem_nil) (Nat.le_refl _) (Nat.le_refl _) dX8_flownWhole_116
    · skip
      have tc_11 : ¬ z_10.toInt < x9_6.toInt := fun h => c_11 ((fa_lt _ _).mpr h)
      refine lv_aload_n hx hb dX8_flownWhole_38 rfl (lv_at hl 2 rfl) ?_
      refine t_getr cf_3 hx hb hts hown hK hT h_a (k := 1) (P := fun q => τ q = 36) rfl (fun _ h9 => h9) fl_X8_18 (fun _ h9 => h9) dX8_flownWhole_39 (fun q_12 eq_12 hq_12 => ?_)
      refine lv_iload hx hb dX8_flownWhole_42 (lv_at hl 1 rfl) ?_
      refine t_lald (n := 1081) (i := x9_6) rfl (by decide) hx hb hK hT hq_12 (hT.len hq_12 (by decide)) ⟨by omega, by omega⟩ dX8_flownWhole_44 (fun z_13 ez_13 => ?_)
      refine lv_lconst (v := 0) hx hb dX8_flownWhole_45 (by decide) ?_
      refine W.lcmp hx hb dX8_flownWhole_46 ?_
      refine lv_topi (fun z_14 ez_14 => ?_)
      have tz_14 : (z_14.toInt < 0 ↔ z_13.toInt < 0) ∧ (0 < z_14.toInt ↔ 0 < z_13.toInt) ∧ -1 ≤ z_14.toInt ∧ z_14.toInt ≤ 1 := cmp_t ez_14
      refine lv_if_eq (tgt := 108) hx hb dX8_flownWhole_47 (by decide) (fun c_15 => ?_) (fun c_15 => ?_)
      · skip
        have tc_15 : z_14.toInt = 0 := (fa_eq _ _).mp c_15
        obtain ⟨z_16, ez_16⟩ : ∃ y : Int32, y = x9_6 + 1 := ⟨_, rfl⟩
        have tz_16 : z_16.toInt = x9_6.toInt + 1 := add_t ez_16 (show -2147483648 ≤ x9_6.toInt + 1 by omega) (show x9_6.toInt + 1 < 2147483648 by omega)
        refine lv_iinc (v := z_16) (lv' := [(6, .int z_16), (4, .long x9_4), (0, .ref a), (1, .ref b), (2, .int v), (3, .int w)]) hx hb dX8_flownWhole_108 hl (k := 1) rfl (by rw [ez_16]; rfl) (by decide) rfl (fun ls hl => ?_)
        refine lv_goto (tgt := 29) hx hb dX8_flownWhole_111 (by decide) ?_
        exact ih9 (x9_4, z_16) _ _ _ (by show (1081 - z_16.toInt).toNat < (1081 - x9_6.toInt).toNat; omega) ⟨(by show 0 ≤ z_16.toInt; omega), (by show z_16.toInt ≤ 1081; omega), rfl, rfl, lv_sub hl [1, 0, 2, 3, 4, 5] rfl⟩
      · skip
        have tc_15 : ¬ z_14.toInt = 0 := fun h => c_15 ((fa_eq _ _).mpr h)
        refine lv_iconst (v := 0) hx hb dX8_flownWhole_50 (by decide) ?_
        refine lv_iload_n hx hb dX8_flownWhole_51 rfl (lv_at hl 5 rfl) ?_
        refine lv_iload hx hb dX8_flownWhole_52 (lv_at hl 1 rfl) ?_
        refine lv_isub hx hb dX8_flownWhole_54 ?_
        refine lv_topi (fun z_17 ez_17 => ?_)
        refine va_mmax hx hb (by rw [hml]; exact hl.1.symm) hown (hts _ ml_X8_101) (hts _ st_math_max) (hts _ ini_J9) (hts _ co_math_max) (Nat.le_of_ble_eq_true rfl) (Nat.le_of_ble_eq_true rfl) (Nat.le_of_ble_eq_true rfl) (Nat.le_of_ble_eq_true rfl) dX8_flownWhole_55 ?_
        refine lv_topi (fun z_18 ez_18 => ?_)
        have tz_18 : (0 ≤ z_18.toInt ∧ z_17.toInt ≤ z_18.toInt ∧ (z_18.toInt = 0 ∨ z_18.toInt = z_17.toInt)) := mmax_t ez_18
        refine lv_i2l hx hb dX8_flownWhole_58 rfl ?_
        refine lv_topl (fun z_19 ez_19 => ?_)
        have tz_19 : z_19.toInt = z_18.toInt := by rw [ez_19]; exact wide_t z_18
        have bz_19 := max_t z_18
        refine lv_lstore (lv' := [(7, .long z_19), (4, .long x9_4), (6, .int x9_6), (0, .ref a), (1, .ref b), (2, .int v), (3, .int w)]) hx hb dX8_flownWhole_59 hl (by decide) rfl (fun ls hl => ?_)
        refine lv_aload_n hx hb dX8_flownWhole_61 rfl (lv_at hl 4 rfl) ?_
        refine lv_aload_n hx hb dX8_flownWhole_62 rfl (lv_at hl 4 rfl) ?_
        refine t_getr cf_7 hx hb hts hown hK hT h_b (k := 15) (P := fun q => τ q = 26) rfl (fun _ h9 => h9) fl_X8_122 (fun _ h9 => h9) dX8_flownWhole_63 (fun q_20 eq_20 hq_20 => ?_)
        refine lv_iload_n hx hb dX8_flownWhole_66 rfl (lv_at hl 5 rfl) ?_
        refine t_iald (n := 3) (i := v) rfl (by decide) hx hb hK hT hq_20 (hT.len hq_20 (by decide)) ⟨by omega, by omega⟩ dX8_flownWhole_67 (fun z_21 ez_21 rz_21 => ?_)
        refine lv_i2l hx hb dX8_flownWhole_68 rfl ?_
        refine lv_topl (fun z_22 ez_22 => ?_)
        have tz_22 : z_22.toInt = z_21.toInt := by rw [ez_22]; exact wide_t z_21
        have az_22 := min_t z_21
        have bz_22 := max_t z_21
        refine lv_iconst (v := 0) hx hb dX8_flownWhole_69 (by decide) ?_
        refine lv_iload hx hb dX8_flownWhole_70 (lv_at hl 2 rfl) ?_
        refine lv_iload_n hx hb dX8_flownWhole_72 rfl (lv_at hl 6 rfl) ?_
        refine lv_isub hx hb dX8_flownWhole_73 ?_
        refine lv_topi (fun z_23 ez_23 => ?_)
        refine va_mmax hx hb (by rw [hml]; exact hl.1.symm) hown (hts _ ml_X8_101) (hts _ st_math_max) (hts _ ini_J9) (hts _ co_math_max) (Nat.le_of_ble_eq_true rfl) (Nat.le_of_ble_eq_true rfl) (Nat.le_of_ble_eq_true rfl) (Nat.le_of_ble_eq_true rfl) dX8_flownWhole_74 ?_
        refine lv_topi (fun z_24 ez_24 => ?_)
        have tz_24 : (0 ≤ z_24.toInt ∧ z_23.toInt ≤ z_24.toInt ∧ (z_24.toInt = 0 ∨ z_24.toInt = z_23.toInt)) := mmax_t ez_24
        refine pu_calll (runS (As := [.ref b, .long z_22, .int z_24]) (rest := []) ⟨hx, hb, hml, hown, hts⟩ (t_X8_harmWithPlanes l D cy base τ G b h_b z_22 z_24) sS_X8_128 hK ⟨Nat.le_trans hZ hS.1, hT⟩ ⟨Nat.le_of_ble_eq_true rfl, Nat.le_of_ble_eq_true rfl⟩ rfl hl.1 rfl (Nat.le_of_ble_eq_true rfl) dX8_flownWhole_77 ⟨Nat.le_of_ble_eq_true rfl, Nat.le_of_ble_eq_true rfl⟩) (fun r_25 hr_25 => ?_)
        refine lv_lstore (lv' := [(9, .long r_25), (7, .long z_19), (4, .long x9_4), (6, .int x9_6), (0, .ref a), (1, .ref b), (2, .int v), (3, .int w)]) hx hb dX8_flownWhole_80 hl (by decide) rfl (fun ls hl => ?_)
        refine lv_lload hx hb dX8_flownWhole_82 (lv_at hl 2 rfl) ?_
        refine lv_aload_n hx hb dX8_flownWhole_84 rfl (lv_at hl 4 rfl) ?_
        refine t_getr cf_3 hx hb hts hown hK hT h_a (k := 1) (P := fun q => τ q = 36) rfl (fun _ h9 => h9) fl_X8_18 (fun _ h9 => h9) dX8_flownWhole_85 (fun q_26 eq_26 hq_26 => ?_)
        have w_27 : q_12 = q_26 := Option.some.inj (eq_12.symm.trans eq_26)
        subst w_27
        refine lv_iload hx hb dX8_flownWhole_88 (lv_at hl 3 rfl) ?_
        refine t_lald (n := 1081) (i := x9_6) rfl (by decide) hx hb hK hT hq_12 (hT.len hq_12 (by decide)) ⟨by omega, by omega⟩ dX8_flownWhole_90 (fun z_28 ez_28 => ?_)
        have w_29 : z_13 = z_28 := ez_13.trans ez_28.symm
        subst w_29
        refine lv_lload hx hb dX8_flownWhole_91 (lv_at hl 0 rfl) ?_
        refine lv_aload_n hx hb dX8_flownWhole_93 rfl (lv_at hl 5 rfl) ?_
        refine t_getr cf_7 hx hb hts hown hK hT h_b (k := 16) (P := fun q => τ q = 26) rfl (fun _ h9 => h9) fl_X8_119 (fun _ h9 => h9) dX8_flownWhole_94 (fun q_30 eq_30 hq_30 => ?_)
        refine lv_iload_n hx hb dX8_flownWhole_97 rfl (lv_at hl 6 rfl) ?_
        refine t_iald (n := 3) (i := v) rfl (by decide) hx hb hK hT hq_30 (hT.len hq_30 (by decide)) ⟨by omega, by omega⟩ dX8_flownWhole_98 (fun z_31 ez_31 rz_31 => ?_)
        refine lv_i2l hx hb dX8_flownWhole_99 rfl ?_
        refine lv_topl (fun z_32 ez_32 => ?_)
        have tz_32 : z_32.toInt = z_31.toInt := by rw [ez_32]; exact wide_t z_31
        have az_32 := min_t z_31
        have bz_32 := max_t z_31
        refine lv_lload hx hb dX8_flownWhole_100 (lv_at hl 1 rfl) ?_
        refine lv_lmul hx hb dX8_flownWhole_102 ?_
        refine lv_topl (fun z_33 ez_33 => ?_)
        refine lv_ladd hx hb dX8_flownWhole_103 ?_
        refine lv_topl (fun z_34 ez_34 => ?_)
        refine lv_lmul hx hb dX8_flownWhole_104 ?_
        refine lv_topl (fun z_35 ez_35 => ?_)
        refine lv_ladd hx hb dX8_flownWhole_105 ?_
        refine lv_topl (fun z_36 ez_36 => ?_)
        refine lv_lstore (lv' := [(4, .long z_36), (9, .long r_25), (7, .long z_19), (6, .int x9_6), (0, .ref a), (1, .ref b), (2, .int v), (3, .int w)]) hx hb dX8_flownWhole_106 hl (by decide) rfl (fun ls hl => ?_)
        obtain ⟨z_37, ez_37⟩ : ∃ y : Int32, y = x9_6 + 1 := ⟨_, rfl⟩
        have tz_37 : z_37.toInt = x9_6.toInt + 1 := add_t ez_37 (show -2147483648 ≤ x9_6.toInt + 1 by omega) (show x9_6.toInt + 1 < 2147483648 by omega)
        refine lv_iinc (v := z_37) (lv' := [(6, .int z_37), (4, .long z_36), (9, .long r_25), (7, .long z_19), (0, .ref a), (1, .ref b), (2, .int v), (3, .int w)]) hx hb dX8_flownWhole_108 hl (k := 3) rfl (by rw [ez_37]; rfl) (by decide) rfl (fun ls hl => ?_)
        refine lv_goto (tgt := 29) hx hb dX8_flownWhole_111 (by decide) ?_
        exact ih9 (z_36, z_37) _ _ _ (by show (1081 - z_37.toInt).toNat < (1081 - x9_6.toInt).toNat; omega) ⟨(by show 0 ≤ z_37.toInt; omega), (by show z_37.toInt ≤ 1081; omega), rfl, rfl, lv_sub hl [1, 0, 4, 5, 6, 7] rfl⟩
  · skip
    have er_1 := hr_1_1
    subst er_1
    refine W.eq (g2 := F0 m 5 ls [.int 0]) rfl ?_
    refine lv_if_ne (tgt := 10) hx hb dX8_flownWhole_5 (by decide) (fun c_38 => absurd rfl c_38) (fun _ => ?_)
    refine lv_lconst (v := 0) hx hb dX8_flownWhole_8 (by decide) ?_
    exact ret_l hx hb hr hlocks ⟨rfl, _, rfl, trivial⟩ (fun _ h => absurd h List.not_mem_nil) (Nat.le_refl _) (Nat.le_refl _) dX8_flownWhole_9
set_option maxHeartbeats 4000000 in
set_option maxRecDepth 100000 in
theorem t_X8_savingMost (l : Launch) (D : va_G) (cy : Nat → ClassId) (base : Nat) (τ : Nat → Nat) (G : Gh) (a : Nat) (h_a : τ a = 3) (b : Nat) (h_b : τ b = 7) : MM l yX8_savingMost cX8_savingMost 9 (some .int) 1 0 0 D cy [.ref a, .ref b] (PT D cy base τ G) (PuI (fun r => -1 ≤ r.toInt ∧ r.toInt ≤ 2)) noF := by
  refine MM.of (by decide) (Nat.le_of_ble_eq_true rfl) ?_
  intro p e s m below meth c C hPT ls hl
  obtain ⟨hx, hb, hr, hml, hown, hts, hlocks, hK, hnm⟩ := C
  obtain ⟨hZ, hT⟩ := hPT
  have hS : va_S (RA base) s.heap s.heap [] := va_S.rf
  have hl : lv_has ls 9 [(0, .ref a), (1, .ref b)] := hl
  refine lv_iconst (v := (-1)) hx hb dX8_savingMost_0 (by decide) ?_
  refine lv_istore_n (lv' := [(2, .int (-1)), (0, .ref a), (1, .ref b)]) hx hb dX8_savingMost_1 rfl hl (by decide) rfl (fun ls hl => ?_)
  refine lv_lconst (v := 0) hx hb dX8_savingMost_2 (by decide) ?_
  refine lv_lstore_n (lv' := [(3, .long 0), (2, .int (-1)), (0, .ref a), (1, .ref b)]) hx hb dX8_savingMost_3 rfl hl (by decide) rfl (fun ls hl => ?_)
  refine lv_aload_n hx hb dX8_savingMost_4 rfl (lv_at hl 3 rfl) ?_
  refine t_geti cf_7 hx hb hts hown hK hT h_b (k := 5) rfl fl_X8_147 (fun _ h9 => h9) dX8_savingMost_5 (fun z_1 ez_1 rz_1 => ?_)
  have ez_1 : z_1 = G.1 b 5 := ez_1
  have rz_1 : 0 ≤ z_1.toInt ∧ z_1.toInt ≤ 3 := rz_1
  refine lv_iconst (v := 1) hx hb dX8_savingMost_8 (by decide) ?_
  refine lv_isub hx hb dX8_savingMost_9 ?_
  refine lv_topi (fun z_2 ez_2 => ?_)
  have tz_2 : z_2.toInt = z_1.toInt - 1 := sub_t ez_2 (show -2147483648 ≤ z_1.toInt - 1 by omega) (show z_1.toInt - 1 < 2147483648 by omega)
  refine lv_istore (lv' := [(5, .int z_2), (3, .long 0), (2, .int (-1)), (0, .ref a), (1, .ref b)]) hx hb dX8_savingMost_10 hl (by decide) rfl (fun ls hl => ?_)
  refine W.loop (σ := Int32 × Int64 × Int32) (fun w3 H locs ls => -1 ≤ w3.1.toInt ∧ w3.1.toInt ≤ 2 ∧ -1 ≤ w3.2.2.toInt ∧ w3.2.2.toInt ≤ 2 ∧ H = s.heap ∧ locs = [] ∧ lv_has ls 9 [(2, .int w3.1), (3, .long w3.2.1), (5, .int w3.2.2), (0, .ref a), (1, .ref b)]) (fun w3 => (w3.2.2.toInt + 1).toNat) ?_ (((-1) : Int32), (0 : Int64), z_2) _ _ _ ⟨(by show -1 ≤ ((-1) : Int32).toInt; decide), (by show ((-1) : Int32).toInt ≤ 2; decide), (by show -1 ≤ z_2.toInt; omega), (by show z_2.toInt ≤ 2; omega), rfl, rfl, lv_sub hl [2, 1, 0, 3, 4] rfl⟩
  intro w3 H locs ls hI ih3
  obtain ⟨x3_2, x3_3, x3_5⟩ := w3
  obtain ⟨i3_0, i3_1, i3_2, i3_3, rfl, rfl, hl⟩ := hI
  have i3_0 : -1 ≤ x3_2.toInt := i3_0
  have i3_1 : x3_2.toInt ≤ 2 := i3_1
  have i3_2 : -1 ≤ x3_5.toInt := i3_2
  have i3_3 : x3_5.toInt ≤ 2 := i3_3
  have hl : lv_has ls 9 [(2, .int x3_2), (3, .long x3_3), (5, .int x3_5), (0, .ref a), (1, .ref b)] := hl
  refine lv_iload hx hb dX8_savingMost_12 (lv_at hl 2 rfl) ?_
  refine lv_if_lt (tgt := 78) hx hb dX8_savingMost_14 (by decide) (fun c_4 => ?_) (fun c_4 => ?_)
  · skip
    have tc_4 : x3_5.toInt < 0 := (fa_lt _ _).mp c_4
    refine lv_iload_n hx hb dX8_savingMost_78 rfl (lv_at hl 0 rfl) ?_
    exact ret_i hx hb hr hlocks ⟨rfl, _, rfl, ⟨(by omega), (by omega)⟩⟩ (fun _ h => absurd h List.not_mem_nil) (Nat.le_refl _) (Nat.le_refl _) dX8_savingMost_79
  · skip
    have tc_4 : ¬ x3_5.toInt < 0 := fun h => c_4 ((fa_lt _ _).mpr h)
    refine lv_aload_n hx hb dX8_savingMost_17 rfl (lv_at hl 3 rfl) ?_
    refine t_getr cf_3 hx hb hts hown hK hT h_a (k := 4) (P := fun q => τ q = 38) rfl (fun _ h9 => h9) fl_X8_25 (fun _ h9 => h9) dX8_savingMost_18 (fun q_5 eq_5 hq_5 => ?_)
    refine lv_iload hx hb dX8_savingMost_21 (lv_at hl 2 rfl) ?_
    refine t_iald (n := 3) (i := x3_5) rfl (by decide) hx hb hK hT hq_5 (hT.len hq_5 (by decide)) ⟨by omega, by omega⟩ dX8_savingMost_23 (fun z_6 ez_6 rz_6 => ?_)
    refine lv_istore (lv' := [(6, .int z_6), (2, .int x3_2), (3, .long x3_3), (5, .int x3_5), (0, .ref a), (1, .ref b)]) hx hb dX8_savingMost_24 hl (by decide) rfl (fun ls hl => ?_)
    refine lv_iload hx hb dX8_savingMost_26 (lv_at hl 0 rfl) ?_
    refine lv_sipush (v := 999) hx hb dX8_savingMost_28 (by decide) ?_
    refine lv_icmp_ge (tgt := 56) hx hb dX8_savingMost_31 (by decide) (fun c_7 => ?_) (fun c_7 => ?_)
    · skip
      have tc_7 : 999 ≤ z_6.toInt := (fa_le _ _).mp c_7
      refine lv_lconst (v := 0) hx hb dX8_savingMost_56 (by decide) ?_
      refine lv_lstore (lv' := [(7, .long 0), (6, .int z_6), (2, .int x3_2), (3, .long x3_3), (5, .int x3_5), (0, .ref a), (1, .ref b)]) hx hb dX8_savingMost_57 hl (by decide) rfl (fun ls hl => ?_)
      refine lv_lload hx hb dX8_savingMost_59 (lv_at hl 0 rfl) ?_
      refine lv_lload_n hx hb dX8_savingMost_61 rfl (lv_at hl 3 rfl) ?_
      refine W.lcmp hx hb dX8_savingMost_62 ?_
      refine lv_topi (fun z_8 ez_8 => ?_)
      have tz_8 : (z_8.toInt < 0 ↔ 0 < x3_3.toInt) ∧ (0 < z_8.toInt ↔ x3_3.toInt < 0) ∧ -1 ≤ z_8.toInt ∧ z_8.toInt ≤ 1 := cmp_t ez_8
      refine lv_if_le (tgt := 72) hx hb dX8_savingMost_63 (by decide) (fun c_9 => ?_) (fun c_9 => ?_)
      · skip
        have tc_9 : z_8.toInt ≤ 0 := (fa_le _ _).mp c_9
        obtain ⟨z_10, ez_10⟩ : ∃ y : Int32, y = x3_5 + (-1) := ⟨_, rfl⟩
        have tz_10 : z_10.toInt = x3_5.toInt + -1 := add_t ez_10 (show -2147483648 ≤ x3_5.toInt + -1 by omega) (show x3_5.toInt + -1 < 2147483648 by omega)
        refine lv_iinc (v := z_10) (lv' := [(5, .int z_10), (7, .long 0), (6, .int z_6), (2, .int x3_2), (3, .long x3_3), (0, .ref a), (1, .ref b)]) hx hb dX8_savingMost_72 hl (k := 4) rfl (by rw [ez_10]; rfl) (by decide) rfl (fun ls hl => ?_)
        refine lv_goto (tgt := 12) hx hb dX8_savingMost_75 (by decide) ?_
        exact ih3 (x3_2, x3_3, z_10) _ _ _ (by show (z_10.toInt + 1).toNat < (x3_5.toInt + 1).toNat; omega) ⟨(by show -1 ≤ x3_2.toInt; omega), (by show x3_2.toInt ≤ 2; omega), (by show -1 ≤ z_10.toInt; omega), (by show z_10.toInt ≤ 2; omega), rfl, rfl, lv_sub hl [3, 4, 0, 5, 6] rfl⟩
      · skip
        have tc_9 : ¬ z_8.toInt ≤ 0 := fun h => c_9 ((fa_le _ _).mpr h)
        refine lv_lload hx hb dX8_savingMost_66 (lv_at hl 0 rfl) ?_
        refine lv_lstore_n (lv' := [(3, .long 0), (7, .long 0), (6, .int z_6), (2, .int x3_2), (5, .int x3_5), (0, .ref a), (1, .ref b)]) hx hb dX8_savingMost_68 rfl hl (by decide) rfl (fun ls hl => ?_)
        refine lv_iload hx hb dX8_savingMost_69 (lv_at hl 4 rfl) ?_
        refine lv_istore_n (lv' := [(2, .int x3_5), (3, .long 0), (7, .long 0), (6, .int z_6), (5, .int x3_5), (0, .ref a), (1, .ref b)]) hx hb dX8_savingMost_71 rfl hl (by decide) rfl (fun ls hl => ?_)
        obtain ⟨z_11, ez_11⟩ : ∃ y : Int32, y = x3_5 + (-1) := ⟨_, rfl⟩
        have tz_11 : z_11.toInt = x3_5.toInt + -1 := add_t ez_11 (show -2147483648 ≤ x3_5.toInt + -1 by omega) (show x3_5.toInt + -1 < 2147483648 by omega)
        refine lv_iinc (v := z_11) (lv' := [(5, .int z_11), (2, .int x3_5), (3, .long 0), (7, .long 0), (6, .int z_6), (0, .ref a), (1, .ref b)]) hx hb dX8_savingMost_72 hl (k := 4) rfl (by rw [ez_11]; rfl) (by decide) rfl (fun ls hl => ?_)
        refine lv_goto (tgt := 12) hx hb dX8_savingMost_75 (by decide) ?_
        exact ih3 (x3_5, (0 : Int64), z_11) _ _ _ (by show (z_11.toInt + 1).toNat < (x3_5.toInt + 1).toNat; omega) ⟨(by show -1 ≤ x3_5.toInt; omega), (by show x3_5.toInt ≤ 2; omega), (by show -1 ≤ z_11.toInt; omega), (by show z_11.toInt ≤ 2; omega), rfl, rfl, lv_sub hl [1, 2, 0, 5, 6] rfl⟩
    · skip
      have tc_7 : ¬ 999 ≤ z_6.toInt := fun h => c_7 ((fa_le _ _).mpr h)
      refine lv_aload_n hx hb dX8_savingMost_34 rfl (lv_at hl 4 rfl) ?_
      refine lv_iload hx hb dX8_savingMost_35 (lv_at hl 3 rfl) ?_
      refine lv_iload hx hb dX8_savingMost_37 (lv_at hl 0 rfl) ?_
      refine pu_calll (runV (As := [.int x3_5, .int z_6]) (rest := []) ⟨hx, hb, hml, hown, hts⟩ (t_X8_whole l D cy base τ G a h_a x3_5 z_6) sV_X8_29 hK (t_recv cf_3 hK hT h_a) ⟨Nat.le_trans hZ hS.1, hT⟩ ⟨Nat.le_of_ble_eq_true rfl, Nat.le_of_ble_eq_true rfl⟩ rfl hl.1 rfl (Nat.le_of_ble_eq_true rfl) dX8_savingMost_39 ⟨Nat.le_of_ble_eq_true rfl, Nat.le_of_ble_eq_true rfl⟩) (fun r_12 hr_12 => ?_)
      refine lv_aload_n hx hb dX8_savingMost_42 rfl (lv_at hl 4 rfl) ?_
      refine lv_iload hx hb dX8_savingMost_43 (lv_at hl 3 rfl) ?_
      refine lv_iload hx hb dX8_savingMost_45 (lv_at hl 0 rfl) ?_
      refine lv_iconst (v := 1) hx hb dX8_savingMost_47 (by decide) ?_
      refine lv_iadd hx hb dX8_savingMost_48 ?_
      refine lv_topi (fun z_13 ez_13 => ?_)
      refine pu_calll (runV (As := [.int x3_5, .int z_13]) (rest := [.long r_12]) ⟨hx, hb, hml, hown, hts⟩ (t_X8_whole l D cy base τ G a h_a x3_5 z_13) sV_X8_29 hK (t_recv cf_3 hK hT h_a) ⟨Nat.le_trans hZ hS.1, hT⟩ ⟨Nat.le_of_ble_eq_true rfl, Nat.le_of_ble_eq_true rfl⟩ rfl hl.1 rfl (Nat.le_of_ble_eq_true rfl) dX8_savingMost_49 ⟨Nat.le_of_ble_eq_true rfl, Nat.le_of_ble_eq_true rfl⟩) (fun r_14 hr_14 => ?_)
      refine lv_lsub hx hb dX8_savingMost_52 ?_
      refine lv_topl (fun z_15 ez_15 => ?_)
      refine lv_goto (tgt := 57) hx hb dX8_savingMost_53 (by decide) ?_
      refine lv_lstore (lv' := [(7, .long z_15), (6, .int z_6), (2, .int x3_2), (3, .long x3_3), (5, .int x3_5), (0, .ref a), (1, .ref b)]) hx hb dX8_savingMost_57 hl (by decide) rfl (fun ls hl => ?_)
      refine lv_lload hx hb dX8_savingMost_59 (lv_at hl 0 rfl) ?_
      refine lv_lload_n hx hb dX8_savingMost_61 rfl (lv_at hl 3 rfl) ?_
      refine W.lcmp hx hb dX8_savingMost_62 ?_
      refine lv_topi (fun z_16 ez_16 => ?_)
      have tz_16 : (z_16.toInt < 0 ↔ z_15.toInt < x3_3.toInt) ∧ (0 < z_16.toInt ↔ x3_3.toInt < z_15.toInt) ∧ -1 ≤ z_16.toInt ∧ z_16.toInt ≤ 1 := cmp_t ez_16
      refine lv_if_le (tgt := 72) hx hb dX8_savingMost_63 (by decide) (fun c_17 => ?_) (fun c_17 => ?_)
      · skip
        have tc_17 : z_16.toInt ≤ 0 := (fa_le _ _).mp c_17
        obtain ⟨z_18, ez_18⟩ : ∃ y : Int32, y = x3_5 + (-1) := ⟨_, rfl⟩
        have tz_18 : z_18.toInt = x3_5.toInt + -1 := add_t ez_18 (show -2147483648 ≤ x3_5.toInt + -1 by omega) (show x3_5.toInt + -1 < 2147483648 by omega)
        refine lv_iinc (v := z_18) (lv' := [(5, .int z_18), (7, .long z_15), (6, .int z_6), (2, .int x3_2), (3, .long x3_3), (0, .ref a), (1, .ref b)]) hx hb dX8_savingMost_72 hl (k := 4) rfl (by rw [ez_18]; rfl) (by decide) rfl (fun ls hl => ?_)
        refine lv_goto (tgt := 12) hx hb dX8_savingMost_75 (by decide) ?_
        exact ih3 (x3_2, x3_3, z_18) _ _ _ (by show (z_18.toInt + 1).toNat < (x3_5.toInt + 1).toNat; omega) ⟨(by show -1 ≤ x3_2.toInt; omega), (by show x3_2.toInt ≤ 2; omega), (by show -1 ≤ z_18.toInt; omega), (by show z_18.toInt ≤ 2; omega), rfl, rfl, lv_sub hl [3, 4, 0, 5, 6] rfl⟩
      · skip
        have tc_17 : ¬ z_16.toInt ≤ 0 := fun h => c_17 ((fa_le _ _).mpr h)
        refine lv_lload hx hb dX8_savingMost_66 (lv_at hl 0 rfl) ?_
        refine lv_lstore_n (lv' := [(3, .long z_15), (7, .long z_15), (6, .int z_6), (2, .int x3_2), (5, .int x3_5), (0, .ref a), (1, .ref b)]) hx hb dX8_savingMost_68 rfl hl (by decide) rfl (fun ls hl => ?_)
        refine lv_iload hx hb dX8_savingMost_69 (lv_at hl 4 rfl) ?_
        refine lv_istore_n (lv' := [(2, .int x3_5), (3, .long z_15), (7, .long z_15), (6, .int z_6), (5, .int x3_5), (0, .ref a), (1, .ref b)]) hx hb dX8_savingMost_71 rfl hl (by decide) rfl (fun ls hl => ?_)
        obtain ⟨z_19, ez_19⟩ : ∃ y : Int32, y = x3_5 + (-1) := ⟨_, rfl⟩
        have tz_19 : z_19.toInt = x3_5.toInt + -1 := add_t ez_19 (show -2147483648 ≤ x3_5.toInt + -1 by omega) (show x3_5.toInt + -1 < 2147483648 by omega)
        refine lv_iinc (v := z_19) (lv' := [(5, .int z_19), (2, .int x3_5), (3, .long z_15), (7, .long z_15), (6, .int z_6), (0, .ref a), (1, .ref b)]) hx hb dX8_savingMost_72 hl (k := 4) rfl (by rw [ez_19]; rfl) (by decide) rfl (fun ls hl => ?_)
        refine lv_goto (tgt := 12) hx hb dX8_savingMost_75 (by decide) ?_
        exact ih3 (x3_5, z_15, z_19) _ _ _ (by show (z_19.toInt + 1).toNat < (x3_5.toInt + 1).toNat; omega) ⟨(by show -1 ≤ x3_5.toInt; omega), (by show x3_5.toInt ≤ 2; omega), (by show -1 ≤ z_19.toInt; omega), (by show z_19.toInt ≤ 2; omega), rfl, rfl, lv_sub hl [1, 2, 0, 5, 6] rfl⟩
set_option maxHeartbeats 4000000 in
set_option maxRecDepth 100000 in
theorem t_X8_packRoom (l : Launch) (D : va_G) (cy : Nat → ClassId) (base : Nat) (τ : Nat → Nat) (G : Gh) (a : Nat) (h_a : τ a = 3) (b : Nat) (h_b : τ b = 7) (v : Int32) : MM l yX8_packRoom cX8_packRoom 6 (some .long) 4 0 0 D cy [.ref a, .ref b, .int v] (PT D cy base τ G) (QT D cy base τ G [3, 32, 36, 37, 38] (fun v g => ∃ r : Int64, v = some (.long r) ∧ (True))) (RA base) := by
  refine MM.of (by decide) (Nat.le_of_ble_eq_true rfl) ?_
  intro p e s m below meth c C hPT ls hl
  obtain ⟨hx, hb, hr, hml, hown, hts, hlocks, hK, hnm⟩ := C
  obtain ⟨hZ, hT⟩ := hPT
  have hS : va_S (RA base) s.heap s.heap [] := va_S.rf
  have hF : Fr τ [3, 32, 36, 37, 38] G G := Fr.rf
  have hl : lv_has ls 6 [(0, .ref a), (1, .ref b), (2, .int v)] := hl
  refine lv_aload_n hx hb dX8_packRoom_0 rfl (lv_at hl 1 rfl) ?_
  refine lv_iload_n hx hb dX8_packRoom_1 rfl (lv_at hl 2 rfl) ?_
  refine pu_calli (runV (As := [.int v]) (rest := []) ⟨hx, hb, hml, hown, hts⟩ (t_X2_hasValley l D cy base τ G b h_b v) sV_X8_141 hK (t_recv cf_7 hK hT h_b) ⟨Nat.le_trans hZ hS.1, hT⟩ ⟨Nat.le_of_ble_eq_true rfl, Nat.le_of_ble_eq_true rfl⟩ rfl hl.1 rfl (Nat.le_of_ble_eq_true rfl) dX8_packRoom_2 ⟨Nat.le_of_ble_eq_true rfl, Nat.le_of_ble_eq_true rfl⟩) (fun r_1 hr_1 => ?_)
  have hr_1_c := hr_1
  rcases hr_1_c with hr_1_0 | hr_1_1
  · skip
    obtain ⟨er_1, hr_1_0_f0, hr_1_0_f1⟩ := hr_1_0
    have hr_1_0_f0 : 0 ≤ v.toInt := hr_1_0_f0
    have hr_1_0_f1 : v.toInt ≤ 5 := hr_1_0_f1
    subst er_1
    refine W.eq (g2 := F0 m 5 ls [.int 1]) rfl ?_
    refine lv_if_ne (tgt := 10) hx hb dX8_packRoom_5 (by decide) (fun _ => ?_) (fun c_2 => absurd c_2 (by decide))
    refine lv_aload_n hx hb dX8_packRoom_10 rfl (lv_at hl 0 rfl) ?_
    refine t_getr cf_3 hx hb hts hown hK hT h_a (k := 4) (P := fun q => τ q = 38) rfl (fun _ h9 => h9) fl_X8_25 (fun _ h9 => h9) dX8_packRoom_11 (fun q_3 eq_3 hq_3 => ?_)
    refine lv_iconst (v := 0) hx hb dX8_packRoom_14 (by decide) ?_
    refine t_callv (runS (As := [.ref q_3, .int 0]) (rest := []) ⟨hx, hb, hml, hown, hts⟩ (t_J7_fill_53178_38 l D cy base τ G q_3 hq_3) sS_X8_144 hK ⟨Nat.le_trans hZ hS.1, hT⟩ ⟨Nat.le_of_ble_eq_true rfl, Nat.le_of_ble_eq_true rfl⟩ rfl hl.1 rfl (Nat.le_of_ble_eq_true rfl) dX8_packRoom_15 ⟨Nat.le_of_ble_eq_true rfl, Nat.le_of_ble_eq_true rfl⟩) hS (fun G_4 H locs hF_4 hr_4 hT hS => ?_)
    have hF := hF.tr hF_4 rfl
    refine lv_iconst (v := 0) hx hb dX8_packRoom_18 (by decide) ?_
    refine lv_istore_n (lv' := [(3, .int 0), (0, .ref a), (1, .ref b), (2, .int v)]) hx hb dX8_packRoom_19 rfl hl (by decide) rfl (fun ls hl => ?_)
    refine W.loop (σ := Int32 × Gh) (fun w5 H locs ls => 0 ≤ w5.1.toInt ∧ w5.1.toInt ≤ 3 ∧ Fr τ [3, 32, 36, 37, 38] G w5.2 ∧ TY D cy base τ w5.2 H ∧ va_S (RA base) s.heap H locs ∧ lv_has ls 6 [(3, .int w5.1), (0, .ref a), (1, .ref b), (2, .int v)]) (fun w5 => (3 - w5.1.toInt).toNat) ?_ ((0 : Int32), G_4) _ _ _ ⟨(by show 0 ≤ (0 : Int32).toInt; decide), (by show (0 : Int32).toInt ≤ 3; decide), hF, hT, hS, lv_sub hl [0, 1, 2, 3] rfl⟩
    intro w5 H locs ls hI ih5
    obtain ⟨x5_3, G_5⟩ := w5
    obtain ⟨i5_0, i5_1, hF, hT, hS, hl⟩ := hI
    have i5_0 : 0 ≤ x5_3.toInt := i5_0
    have i5_1 : x5_3.toInt ≤ 3 := i5_1
    have hF : Fr τ [3, 32, 36, 37, 38] G G_5 := hF
    have hT : TY D cy base τ G_5 H := hT
    have hS : va_S (RA base) s.heap H locs := hS
    have hl : lv_has ls 6 [(3, .int x5_3), (0, .ref a), (1, .ref b), (2, .int v)] := hl
    refine lv_iload_n hx hb dX8_packRoom_20 rfl (lv_at hl 0 rfl) ?_
    refine lv_aload_n hx hb dX8_packRoom_21 rfl (lv_at hl 2 rfl) ?_
    refine t_geti cf_7 hx hb hts hown hK hT h_b (k := 5) rfl fl_X8_147 (fun _ h9 => h9) dX8_packRoom_22 (fun z_6 ez_6 rz_6 => ?_)
    have ez_6 : z_6 = G_5.1 b 5 := ez_6
    have rz_6 : 0 ≤ z_6.toInt ∧ z_6.toInt ≤ 3 := rz_6
    have ez_6 : z_6 = G.1 b 5 := ez_6.trans (hF.i h_b (by decide) rfl _)
    refine lv_icmp_ge (tgt := 49) hx hb dX8_packRoom_25 (by decide) (fun c_7 => ?_) (fun c_7 => ?_)
    · skip
      have tc_7 : z_6.toInt ≤ x5_3.toInt := (fa_le _ _).mp c_7
      refine lv_iconst (v := 0) hx hb dX8_packRoom_49 (by decide) ?_
      refine lv_istore_n (lv' := [(3, .int 0), (0, .ref a), (1, .ref b), (2, .int v)]) hx hb dX8_packRoom_50 rfl hl (by decide) rfl (fun ls hl => ?_)
      refine W.loop (σ := Int32 × Gh) (fun w8 H locs ls => 0 ≤ w8.1.toInt ∧ w8.1.toInt ≤ 2147483647 ∧ Fr τ [3, 32, 36, 37, 38] G w8.2 ∧ TY D cy base τ w8.2 H ∧ va_S (RA base) s.heap H locs ∧ lv_has ls 6 [(3, .int w8.1), (0, .ref a), (1, .ref b), (2, .int v)]) (fun w8 => (2147483647 - w8.1.toInt).toNat) ?_ ((0 : Int32), G_5) _ _ _ ⟨(by show 0 ≤ (0 : Int32).toInt; decide), (by show (0 : Int32).toInt ≤ 2147483647; decide), hF, hT, hS, lv_sub hl [0, 1, 2, 3] rfl⟩
      intro w8 H locs ls hI ih8
      obtain ⟨x8_3, G_8⟩ := w8
      obtain ⟨i8_0, i8_1, hF, hT, hS, hl⟩ := hI
      have i8_0 : 0 ≤ x8_3.toInt := i8_0
      have i8_1 : x8_3.toInt ≤ 2147483647 := i8_1
      have hF : Fr τ [3, 32, 36, 37, 38] G G_8 := hF
      have hT : TY D cy base τ G_8 H := hT
      have hS : va_S (RA base) s.heap H locs := hS
      have hl : lv_has ls 6 [(3, .int x8_3), (0, .ref a), (1, .ref b), (2, .int v)] := hl
      refine lv_iload_n hx hb dX8_packRoom_51 rfl (lv_at hl 0 rfl) ?_
      refine lv_aload_n hx hb dX8_packRoom_52 rfl (lv_at hl 2 rfl) ?_
      refine t_getr cf_7 hx hb hts hown hK hT h_b (k := 18) (P := fun q => τ q = 27) rfl (fun _ h9 => h9) fl_X8_150 (fun _ h9 => h9) dX8_packRoom_53 (fun q_9 eq_9 hq_9 => ?_)
      have eq_9 := (hF.r h_b (by decide) rfl _).symm.trans eq_9
      refine lv_iload_n hx hb dX8_packRoom_56 rfl (lv_at hl 3 rfl) ?_
      refine t_iald (n := 6) (i := v) rfl (by decide) hx hb hK hT hq_9 (hT.len hq_9 (by decide)) ⟨by omega, by omega⟩ dX8_packRoom_57 (fun z_10 ez_10 rz_10 => ?_)
      have ez_10 : z_10 = G.1 q_9 v.toNatClampNeg := ez_10.trans (hF.i hq_9 (by decide) rfl _)
      refine lv_icmp_ge (tgt := 94) hx hb dX8_packRoom_58 (by decide) (fun c_11 => ?_) (fun c_11 => ?_)
      · skip
        have tc_11 : z_10.toInt ≤ x8_3.toInt := (fa_le _ _).mp c_11
        refine lv_lconst (v := 0) hx hb dX8_packRoom_94 (by decide) ?_
        refine lv_lstore_n (lv' := [(3, .long 0), (0, .ref a), (1, .ref b), (2, .int v)]) hx hb dX8_packRoom_95 rfl hl (by decide) rfl (fun ls hl => ?_)
        refine lv_iconst (v := 0) hx hb dX8_packRoom_96 (by decide) ?_
        refine lv_istore (lv' := [(5, .int 0), (3, .long 0), (0, .ref a), (1, .ref b), (2, .int v)]) hx hb dX8_packRoom_97 hl (by decide) rfl (fun ls hl => ?_)
        refine W.loop (σ := Int64 × Int32 × Gh) (fun w12 H locs ls => 0 ≤ w12.2.1.toInt ∧ w12.2.1.toInt ≤ 3 ∧ Fr τ [3, 32, 36, 37, 38] G w12.2.2 ∧ TY D cy base τ w12.2.2 H ∧ va_S (RA base) s.heap H locs ∧ lv_has ls 6 [(3, .long w12.1), (5, .int w12.2.1), (0, .ref a), (1, .ref b), (2, .int v)]) (fun w12 => (3 - w12.2.1.toInt).toNat) ?_ ((0 : Int64), (0 : Int32), G_8) _ _ _ ⟨(by show 0 ≤ (0 : Int32).toInt; decide), (by show (0 : Int32).toInt ≤ 3; decide), hF, hT, hS, lv_sub hl [1, 0, 2, 3, 4] rfl⟩
        intro w12 H locs ls hI ih12
        obtain ⟨x12_3, x12_5, G_12⟩ := w12
        obtain ⟨i12_0, i12_1, hF, hT, hS, hl⟩ := hI
        have i12_0 : 0 ≤ x12_5.toInt := i12_0
        have i12_1 : x12_5.toInt ≤ 3 := i12_1
        have hF : Fr τ [3, 32, 36, 37, 38] G G_12 := hF
        have hT : TY D cy base τ G_12 H := hT
        have hS : va_S (RA base) s.heap H locs := hS
        have hl : lv_has ls 6 [(3, .long x12_3), (5, .int x12_5), (0, .ref a), (1, .ref b), (2, .int v)] := hl
        refine lv_iload hx hb dX8_packRoom_99 (lv_at hl 1 rfl) ?_
        refine lv_aload_n hx hb dX8_packRoom_101 rfl (lv_at hl 3 rfl) ?_
        refine t_geti cf_7 hx hb hts hown hK hT h_b (k := 5) rfl fl_X8_147 (fun _ h9 => h9) dX8_packRoom_102 (fun z_13 ez_13 rz_13 => ?_)
        have w_14 : z_6 = z_13 := ez_6.trans (ez_13.trans (hF.i h_b (by decide) rfl _)).symm
        subst w_14
        refine lv_icmp_ge (tgt := 130) hx hb dX8_packRoom_105 (by decide) (fun c_15 => ?_) (fun c_15 => ?_)
        · skip
          have tc_15 : z_6.toInt ≤ x12_5.toInt := (fa_le _ _).mp c_15
          refine lv_lload_n hx hb dX8_packRoom_130 rfl (lv_at hl 0 rfl) ?_
          exact ret_l hx hb hr hlocks ⟨⟨hS.1, hS.2.1⟩, G_12, hF, ⟨_, rfl, trivial⟩, hT⟩ hS.2.2 (Nat.le_of_ble_eq_true rfl) (Nat.le_of_ble_eq_true rfl) dX8_packRoom_131
        · skip
          have tc_15 : ¬ z_6.toInt ≤ x12_5.toInt := fun h => c_15 ((fa_le _ _).mpr h)
          refine lv_lload_n hx hb dX8_packRoom_108 rfl (lv_at hl 0 rfl) ?_
          refine lv_aload_n hx hb dX8_packRoom_109 rfl (lv_at hl 2 rfl) ?_
          refine lv_iload hx hb dX8_packRoom_110 (lv_at hl 1 rfl) ?_
          refine lv_aload_n hx hb dX8_packRoom_112 rfl (lv_at hl 2 rfl) ?_
          refine t_getr cf_3 hx hb hts hown hK hT h_a (k := 4) (P := fun q => τ q = 38) rfl (fun _ h9 => h9) fl_X8_25 (fun _ h9 => h9) dX8_packRoom_113 (fun q_16 eq_16 hq_16 => ?_)
          have w_17 : q_3 = q_16 := Option.some.inj (eq_3.symm.trans ((hF.r h_a (by decide) rfl _).symm.trans eq_16))
          subst w_17
          refine lv_iload hx hb dX8_packRoom_116 (lv_at hl 1 rfl) ?_
          refine t_iald (n := 3) (i := x12_5) rfl (by decide) hx hb hK hT hq_3 (hT.len hq_3 (by decide)) ⟨by omega, by omega⟩ dX8_packRoom_118 (fun z_18 ez_18 rz_18 => ?_)
          refine pu_calll (runV (As := [.int x12_5, .int z_18]) (rest := [.long x12_3]) ⟨hx, hb, hml, hown, hts⟩ (t_X8_whole l D cy base τ G_12 a h_a x12_5 z_18) sV_X8_29 hK (t_recv cf_3 hK hT h_a) ⟨Nat.le_trans hZ hS.1, hT⟩ ⟨Nat.le_of_ble_eq_true rfl, Nat.le_of_ble_eq_true rfl⟩ rfl hl.1 rfl (Nat.le_of_ble_eq_true rfl) dX8_packRoom_119 ⟨Nat.le_of_ble_eq_true rfl, Nat.le_of_ble_eq_true rfl⟩) (fun r_19 hr_19 => ?_)
          refine lv_ladd hx hb dX8_packRoom_122 ?_
          refine lv_topl (fun z_20 ez_20 => ?_)
          refine lv_lstore_n (lv' := [(3, .long z_20), (5, .int x12_5), (0, .ref a), (1, .ref b), (2, .int v)]) hx hb dX8_packRoom_123 rfl hl (by decide) rfl (fun ls hl => ?_)
          obtain ⟨z_21, ez_21⟩ : ∃ y : Int32, y = x12_5 + 1 := ⟨_, rfl⟩
          have tz_21 : z_21.toInt = x12_5.toInt + 1 := add_t ez_21 (show -2147483648 ≤ x12_5.toInt + 1 by omega) (show x12_5.toInt + 1 < 2147483648 by omega)
          refine lv_iinc (v := z_21) (lv' := [(5, .int z_21), (3, .long z_20), (0, .ref a), (1, .ref b), (2, .int v)]) hx hb dX8_packRoom_124 hl (k := 1) rfl (by rw [ez_21]; rfl) (by decide) rfl (fun ls hl => ?_)
          refine lv_goto (tgt := 99) hx hb dX8_packRoom_127 (by decide) ?_
          exact ih12 (z_20, z_21, G_12) _ _ _ (by show (3 - z_21.toInt).toNat < (3 - x12_5.toInt).toNat; omega) ⟨(by show 0 ≤ z_21.toInt; omega), (by show z_21.toInt ≤ 3; omega), hF, hT, hS, lv_sub hl [1, 0, 2, 3, 4] rfl⟩
      · skip
        have tc_11 : ¬ z_10.toInt ≤ x8_3.toInt := fun h => c_11 ((fa_le _ _).mpr h)
        have mc_11 : z_10.toInt ≤ 2147483647 := max_t z_10
        refine lv_aload_n hx hb dX8_packRoom_61 rfl (lv_at hl 1 rfl) ?_
        refine lv_aload_n hx hb dX8_packRoom_62 rfl (lv_at hl 2 rfl) ?_
        refine pu_calli (runV (As := [.ref b]) (rest := []) ⟨hx, hb, hml, hown, hts⟩ (t_X8_savingMost l D cy base τ G_8 a h_a b h_b) sV_X8_153 hK (t_recv cf_3 hK hT h_a) ⟨Nat.le_trans hZ hS.1, hT⟩ ⟨Nat.le_of_ble_eq_true rfl, Nat.le_of_ble_eq_true rfl⟩ rfl hl.1 rfl (Nat.le_of_ble_eq_true rfl) dX8_packRoom_63 ⟨Nat.le_of_ble_eq_true rfl, Nat.le_of_ble_eq_true rfl⟩) (fun r_22 hr_22 => ?_)
        obtain ⟨hr_22_lo, hr_22_hi⟩ := hr_22
        have hr_22_lo : -1 ≤ r_22.toInt := hr_22_lo
        have hr_22_hi : r_22.toInt ≤ 2 := hr_22_hi
        refine lv_istore (lv' := [(4, .int r_22), (3, .int x8_3), (0, .ref a), (1, .ref b), (2, .int v)]) hx hb dX8_packRoom_66 hl (by decide) rfl (fun ls hl => ?_)
        refine lv_iload hx hb dX8_packRoom_68 (lv_at hl 0 rfl) ?_
        refine lv_iconst (v := (-1)) hx hb dX8_packRoom_70 (by decide) ?_
        refine lv_icmp_ne (tgt := 77) hx hb dX8_packRoom_71 (by decide) (fun c_23 => ?_) (fun c_23 => ?_)
        · skip
          have tc_23 : ¬ r_22.toInt = -1 := fun h => c_23 ((fa_eq _ _).mpr h)
          refine lv_aload_n hx hb dX8_packRoom_77 rfl (lv_at hl 2 rfl) ?_
          refine t_getr cf_3 hx hb hts hown hK hT h_a (k := 4) (P := fun q => τ q = 38) rfl (fun _ h9 => h9) fl_X8_25 (fun _ h9 => h9) dX8_packRoom_78 (fun q_24 eq_24 hq_24 => ?_)
          have w_25 : q_3 = q_24 := Option.some.inj (eq_3.symm.trans ((hF.r h_a (by decide) rfl _).symm.trans eq_24))
          subst w_25
          refine lv_iload hx hb dX8_packRoom_81 (lv_at hl 0 rfl) ?_
          refine lv_dup2_11 hx hb dX8_packRoom_83 rfl rfl ?_
          refine t_iald (n := 3) (i := r_22) rfl (by decide) hx hb hK hT hq_3 (hT.len hq_3 (by decide)) ⟨by omega, by omega⟩ dX8_packRoom_84 (fun z_26 ez_26 rz_26 => ?_)
          refine lv_iconst (v := 1) hx hb dX8_packRoom_85 (by decide) ?_
          refine lv_iadd hx hb dX8_packRoom_86 ?_
          refine lv_topi (fun z_27 ez_27 => ?_)
          refine t_iast (n := 3) (i := r_22) (x := z_27) rfl (by decide) hx hb hK hT hS hq_3 (hT.len hq_3 (by decide)) ⟨by omega, by omega⟩ trivial dX8_packRoom_87 (fun H locs G_28 eG_28 hT hS => ?_)
          have hF := hF.wI eG_28 hq_3 rfl
          obtain ⟨z_29, ez_29⟩ : ∃ y : Int32, y = x8_3 + 1 := ⟨_, rfl⟩
          have tz_29 : z_29.toInt = x8_3.toInt + 1 := add_t ez_29 (show -2147483648 ≤ x8_3.toInt + 1 by omega) (show x8_3.toInt + 1 < 2147483648 by omega)
          refine lv_iinc (v := z_29) (lv' := [(3, .int z_29), (4, .int r_22), (0, .ref a), (1, .ref b), (2, .int v)]) hx hb dX8_packRoom_88 hl (k := 1) rfl (by rw [ez_29]; rfl) (by decide) rfl (fun ls hl => ?_)
          refine lv_goto (tgt := 51) hx hb dX8_packRoom_91 (by decide) ?_
          exact ih8 (z_29, G_28) _ _ _ (by show (2147483647 - z_29.toInt).toNat < (2147483647 - x8_3.toInt).toNat; omega) ⟨(by show 0 ≤ z_29.toInt; omega), (by show z_29.toInt ≤ 2147483647; omega), hF, hT, hS, lv_sub hl [0, 2, 3, 4] rfl⟩
        · skip
          have tc_23 : r_22.toInt = -1 := (fa_eq _ _).mp c_23
          refine lv_goto (tgt := 94) hx hb dX8_packRoom_74 (by decide) ?_
          refine lv_lconst (v := 0) hx hb dX8_packRoom_94 (by decide) ?_
          refine lv_lstore_n (lv' := [(3, .long 0), (0, .ref a), (1, .ref b), (2, .int v)]) hx hb dX8_packRoom_95 rfl hl (by decide) rfl (fun ls hl => ?_)
          refine lv_iconst (v := 0) hx hb dX8_packRoom_96 (by decide) ?_
          refine lv_istore (lv' := [(5, .int 0), (3, .long 0), (0, .ref a), (1, .ref b), (2, .int v)]) hx hb dX8_packRoom_97 hl (by decide) rfl (fun ls hl => ?_)
          refine W.loop (σ := Int64 × Int32 × Gh) (fun w30 H locs ls => 0 ≤ w30.2.1.toInt ∧ w30.2.1.toInt ≤ 3 ∧ Fr τ [3, 32, 36, 37, 38] G w30.2.2 ∧ TY D cy base τ w30.2.2 H ∧ va_S (RA base) s.heap H locs ∧ lv_has ls 6 [(3, .long w30.1), (5, .int w30.2.1), (0, .ref a), (1, .ref b), (2, .int v)]) (fun w30 => (3 - w30.2.1.toInt).toNat) ?_ ((0 : Int64), (0 : Int32), G_8) _ _ _ ⟨(by show 0 ≤ (0 : Int32).toInt; decide), (by show (0 : Int32).toInt ≤ 3; decide), hF, hT, hS, lv_sub hl [1, 0, 2, 3, 4] rfl⟩
          intro w30 H locs ls hI ih30
          obtain ⟨x30_3, x30_5, G_30⟩ := w30
          obtain ⟨i30_0, i30_1, hF, hT, hS, hl⟩ := hI
          have i30_0 : 0 ≤ x30_5.toInt := i30_0
          have i30_1 : x30_5.toInt ≤ 3 := i30_1
          have hF : Fr τ [3, 32, 36, 37, 38] G G_30 := hF
          have hT : TY D cy base τ G_30 H := hT
          have hS : va_S (RA base) s.heap H locs := hS
          have hl : lv_has ls 6 [(3, .long x30_3), (5, .int x30_5), (0, .ref a), (1, .ref b), (2, .int v)] := hl
          refine lv_iload hx hb dX8_packRoom_99 (lv_at hl 1 rfl) ?_
          refine lv_aload_n hx hb dX8_packRoom_101 rfl (lv_at hl 3 rfl) ?_
          refine t_geti cf_7 hx hb hts hown hK hT h_b (k := 5) rfl fl_X8_147 (fun _ h9 => h9) dX8_packRoom_102 (fun z_31 ez_31 rz_31 => ?_)
          have w_32 : z_6 = z_31 := ez_6.trans (ez_31.trans (hF.i h_b (by decide) rfl _)).symm
          subst w_32
          refine lv_icmp_ge (tgt := 130) hx hb dX8_packRoom_105 (by decide) (fun c_33 => ?_) (fun c_33 => ?_)
          · skip
            have tc_33 : z_6.toInt ≤ x30_5.toInt := (fa_le _ _).mp c_33
            refine lv_lload_n hx hb dX8_packRoom_130 rfl (lv_at hl 0 rfl) ?_
            exact ret_l hx hb hr hlocks ⟨⟨hS.1, hS.2.1⟩, G_30, hF, ⟨_, rfl, trivial⟩, hT⟩ hS.2.2 (Nat.le_of_ble_eq_true rfl) (Nat.le_of_ble_eq_true rfl) dX8_packRoom_131
          · skip
            have tc_33 : ¬ z_6.toInt ≤ x30_5.toInt := fun h => c_33 ((fa_le _ _).mpr h)
            refine lv_lload_n hx hb dX8_packRoom_108 rfl (lv_at hl 0 rfl) ?_
            refine lv_aload_n hx hb dX8_packRoom_109 rfl (lv_at hl 2 rfl) ?_
            refine lv_iload hx hb dX8_packRoom_110 (lv_at hl 1 rfl) ?_
            refine lv_aload_n hx hb dX8_packRoom_112 rfl (lv_at hl 2 rfl) ?_
            refine t_getr cf_3 hx hb hts hown hK hT h_a (k := 4) (P := fun q => τ q = 38) rfl (fun _ h9 => h9) fl_X8_25 (fun _ h9 => h9) dX8_packRoom_113 (fun q_34 eq_34 hq_34 => ?_)
            have w_35 : q_3 = q_34 := Option.some.inj (eq_3.symm.trans ((hF.r h_a (by decide) rfl _).symm.trans eq_34))
            subst w_35
            refine lv_iload hx hb dX8_packRoom_116 (lv_at hl 1 rfl) ?_
            refine t_iald (n := 3) (i := x30_5) rfl (by decide) hx hb hK hT hq_3 (hT.len hq_3 (by decide)) ⟨by omega, by omega⟩ dX8_packRoom_118 (fun z_36 ez_36 rz_36 => ?_)
            refine pu_calll (runV (As := [.int x30_5, .int z_36]) (rest := [.long x30_3]) ⟨hx, hb, hml, hown, hts⟩ (t_X8_whole l D cy base τ G_30 a h_a x30_5 z_36) sV_X8_29 hK (t_recv cf_3 hK hT h_a) ⟨Nat.le_trans hZ hS.1, hT⟩ ⟨Nat.le_of_ble_eq_true rfl, Nat.le_of_ble_eq_true rfl⟩ rfl hl.1 rfl (Nat.le_of_ble_eq_true rfl) dX8_packRoom_119 ⟨Nat.le_of_ble_eq_true rfl, Nat.le_of_ble_eq_true rfl⟩) (fun r_37 hr_37 => ?_)
            refine lv_ladd hx hb dX8_packRoom_122 ?_
            refine lv_topl (fun z_38 ez_38 => ?_)
            refine lv_lstore_n (lv' := [(3, .long z_38), (5, .int x30_5), (0, .ref a), (1, .ref b), (2, .int v)]) hx hb dX8_packRoom_123 rfl hl (by decide) rfl (fun ls hl => ?_)
            obtain ⟨z_39, ez_39⟩ : ∃ y : Int32, y = x30_5 + 1 := ⟨_, rfl⟩
            have tz_39 : z_39.toInt = x30_5.toInt + 1 := add_t ez_39 (show -2147483648 ≤ x30_5.toInt + 1 by omega) (show x30_5.toInt + 1 < 2147483648 by omega)
            refine lv_iinc (v := z_39) (lv' := [(5, .int z_39), (3, .long z_38), (0, .ref a), (1, .ref b), (2, .int v)]) hx hb dX8_packRoom_124 hl (k := 1) rfl (by rw [ez_39]; rfl) (by decide) rfl (fun ls hl => ?_)
            refine lv_goto (tgt := 99) hx hb dX8_packRoom_127 (by decide) ?_
            exact ih30 (z_38, z_39, G_30) _ _ _ (by show (3 - z_39.toInt).toNat < (3 - x30_5.toInt).toNat; omega) ⟨(by show 0 ≤ z_39.toInt; omega), (by show z_39.toInt ≤ 3; omega), hF, hT, hS, lv_sub hl [1, 0, 2, 3, 4] rfl⟩
    · skip
      have tc_7 : ¬ z_6.toInt ≤ x5_3.toInt := fun h => c_7 ((fa_le _ _).mpr h)
      refine lv_aload_n hx hb dX8_packRoom_28 rfl (lv_at hl 1 rfl) ?_
      refine lv_aload_n hx hb dX8_packRoom_29 rfl (lv_at hl 2 rfl) ?_
      refine lv_iload_n hx hb dX8_packRoom_30 rfl (lv_at hl 3 rfl) ?_
      refine lv_iload_n hx hb dX8_packRoom_31 rfl (lv_at hl 0 rfl) ?_
      refine t_callv (runV (As := [.ref b, .int v, .int x5_3]) (rest := []) ⟨hx, hb, hml, hown, hts⟩ (t_X8_gatherAlone l D cy base τ G_5 a h_a b h_b v x5_3) sV_X8_43 hK (t_recv cf_3 hK hT h_a) ⟨Nat.le_trans hZ hS.1, hT⟩ ⟨Nat.le_of_ble_eq_true rfl, Nat.le_of_ble_eq_true rfl⟩ rfl hl.1 rfl (Nat.le_of_ble_eq_true rfl) dX8_packRoom_32 ⟨Nat.le_of_ble_eq_true rfl, Nat.le_of_ble_eq_true rfl⟩) hS (fun G_40 H locs hF_40 hr_40 hT hS => ?_)
      have hF := hF.tr hF_40 rfl
      refine lv_aload_n hx hb dX8_packRoom_35 rfl (lv_at hl 1 rfl) ?_
      refine lv_aload_n hx hb dX8_packRoom_36 rfl (lv_at hl 2 rfl) ?_
      refine lv_iload_n hx hb dX8_packRoom_37 rfl (lv_at hl 0 rfl) ?_
      refine lv_iload_n hx hb dX8_packRoom_38 rfl (lv_at hl 0 rfl) ?_
      refine lv_iconst (v := 0) hx hb dX8_packRoom_39 (by decide) ?_
      refine t_callv (runV (As := [.ref b, .int x5_3, .int x5_3, .int 0]) (rest := []) ⟨hx, hb, hml, hown, hts⟩ (t_X8_sumUp l D cy base τ G_40 a h_a b h_b x5_3 x5_3 0) sV_X8_47 hK (t_recv cf_3 hK hT h_a) ⟨Nat.le_trans hZ hS.1, hT⟩ ⟨Nat.le_of_ble_eq_true rfl, Nat.le_of_ble_eq_true rfl⟩ rfl hl.1 rfl (Nat.le_of_ble_eq_true rfl) dX8_packRoom_40 ⟨Nat.le_of_ble_eq_true rfl, Nat.le_of_ble_eq_true rfl⟩) hS (fun G_41 H locs hF_41 hr_41 hT hS => ?_)
      have hF := hF.tr hF_41 rfl
      obtain ⟨z_42, ez_42⟩ : ∃ y : Int32, y = x5_3 + 1 := ⟨_, rfl⟩
      have tz_42 : z_42.toInt = x5_3.toInt + 1 := add_t ez_42 (show -2147483648 ≤ x5_3.toInt + 1 by omega) (show x5_3.toInt + 1 < 2147483648 by omega)
      refine lv_iinc (v := z_42) (lv' := [(3, .int z_42), (0, .ref a), (1, .ref b), (2, .int v)]) hx hb dX8_packRoom_43 hl (k := 0) rfl (by rw [ez_42]; rfl) (by decide) rfl (fun ls hl => ?_)
      refine lv_goto (tgt := 20) hx hb dX8_packRoom_46 (by decide) ?_
      exact ih5 (z_42, G_41) _ _ _ (by show (3 - z_42.toInt).toNat < (3 - x5_3.toInt).toNat; omega) ⟨(by show 0 ≤ z_42.toInt; omega), (by show z_42.toInt ≤ 3; omega), hF, hT, hS, lv_sub hl [0, 1, 2, 3] rfl⟩
  · skip
    have er_1 := hr_1_1
    subst er_1
    refine W.eq (g2 := F0 m 5 ls [.int 0]) rfl ?_
    refine lv_if_ne (tgt := 10) hx hb dX8_packRoom_5 (by decide) (fun c_43 => absurd rfl c_43) (fun _ => ?_)
    refine lv_lconst (v := 0) hx hb dX8_packRoom_8 (by decide) ?_
    exact ret_l hx hb hr hlocks ⟨⟨hS.1, hS.2.1⟩, G, hF, ⟨_, rfl, trivial⟩, hT⟩ hS.2.2 (Nat.le_of_ble_eq_true rfl) (Nat.le_of_ble_eq_true rfl) dX8_packRoom_9
