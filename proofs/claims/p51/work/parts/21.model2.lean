theorem dX10_costOf_0 : decode cX10_costOf 0 = .ok (.ldc2_w 284, 3) := by decide +kernel
theorem dX10_costOf_3 : decode cX10_costOf 3 = .ok (.aload_n 0, 1) := by decide +kernel
theorem dX10_costOf_4 : decode cX10_costOf 4 = .ok (.iload_n 2, 1) := by decide +kernel
theorem dX10_costOf_5 : decode cX10_costOf 5 = .ok (.invokevirtual 363, 3) := by decide +kernel
theorem dX10_costOf_8 : decode cX10_costOf 8 = .ok (.i2l, 1) := by decide +kernel
theorem dX10_costOf_9 : decode cX10_costOf 9 = .ok (.lmul, 1) := by decide +kernel
theorem dX10_costOf_10 : decode cX10_costOf 10 = .ok (.iload_n 3, 1) := by decide +kernel
theorem dX10_costOf_11 : decode cX10_costOf 11 = .ok (.i2l, 1) := by decide +kernel
theorem dX10_costOf_12 : decode cX10_costOf 12 = .ok (.lmul, 1) := by decide +kernel
theorem dX10_costOf_13 : decode cX10_costOf 13 = .ok (.lstore 4, 2) := by decide +kernel
theorem dX10_costOf_15 : decode cX10_costOf 15 = .ok (.iconst 0, 1) := by decide +kernel
theorem dX10_costOf_16 : decode cX10_costOf 16 = .ok (.istore 6, 2) := by decide +kernel
theorem dX10_costOf_18 : decode cX10_costOf 18 = .ok (.iload 6, 2) := by decide +kernel
theorem dX10_costOf_20 : decode cX10_costOf 20 = .ok (.aload_n 0, 1) := by decide +kernel
theorem dX10_costOf_21 : decode cX10_costOf 21 = .ok (.invokevirtual 278, 3) := by decide +kernel
theorem dX10_costOf_24 : decode cX10_costOf 24 = .ok (.if_icmp .gt 36, 3) := by decide +kernel
theorem dX10_costOf_60 : decode cX10_costOf 60 = .ok (.lload 4, 2) := by decide +kernel
theorem dX10_costOf_62 : decode cX10_costOf 62 = .ok (.lreturn, 1) := by decide +kernel
theorem dX10_costOf_27 : decode cX10_costOf 27 = .ok (.lload 4, 2) := by decide +kernel
theorem dX10_costOf_29 : decode cX10_costOf 29 = .ok (.aload_n 0, 1) := by decide +kernel
theorem dX10_costOf_30 : decode cX10_costOf 30 = .ok (.getfield 71, 3) := by decide +kernel
theorem dX10_costOf_33 : decode cX10_costOf 33 = .ok (.iload 6, 2) := by decide +kernel
theorem dX10_costOf_35 : decode cX10_costOf 35 = .ok (.laload, 1) := by decide +kernel
theorem dX10_costOf_36 : decode cX10_costOf 36 = .ok (.aload_n 0, 1) := by decide +kernel
theorem dX10_costOf_37 : decode cX10_costOf 37 = .ok (.iload_n 2, 1) := by decide +kernel
theorem dX10_costOf_38 : decode cX10_costOf 38 = .ok (.aload_n 0, 1) := by decide +kernel
theorem dX10_costOf_39 : decode cX10_costOf 39 = .ok (.iload_n 1, 1) := by decide +kernel
theorem dX10_costOf_40 : decode cX10_costOf 40 = .ok (.iload_n 2, 1) := by decide +kernel
theorem dX10_costOf_41 : decode cX10_costOf 41 = .ok (.iload 6, 2) := by decide +kernel
theorem dX10_costOf_43 : decode cX10_costOf 43 = .ok (.invokevirtual 353, 3) := by decide +kernel
theorem dX10_costOf_46 : decode cX10_costOf 46 = .ok (.iload_n 3, 1) := by decide +kernel
theorem dX10_costOf_47 : decode cX10_costOf 47 = .ok (.invokevirtual 366, 3) := by decide +kernel
theorem dX10_costOf_50 : decode cX10_costOf 50 = .ok (.lmul, 1) := by decide +kernel
theorem dX10_costOf_51 : decode cX10_costOf 51 = .ok (.ladd, 1) := by decide +kernel
theorem dX10_costOf_52 : decode cX10_costOf 52 = .ok (.lstore 4, 2) := by decide +kernel
theorem dX10_costOf_54 : decode cX10_costOf 54 = .ok (.iinc 6 1, 3) := by decide +kernel
theorem dX10_costOf_57 : decode cX10_costOf 57 = .ok (.goto (-39), 3) := by decide +kernel
theorem dX10_cost_0 : decode cX10_cost 0 = .ok (.aload_n 0, 1) := by decide +kernel
theorem dX10_cost_1 : decode cX10_cost 1 = .ok (.iconst 0, 1) := by decide +kernel
theorem dX10_cost_2 : decode cX10_cost 2 = .ok (.putfield 111, 3) := by decide +kernel
theorem dX10_cost_5 : decode cX10_cost 5 = .ok (.aload_n 0, 1) := by decide +kernel
theorem dX10_cost_6 : decode cX10_cost 6 = .ok (.iload_n 1, 1) := by decide +kernel
theorem dX10_cost_7 : decode cX10_cost 7 = .ok (.iload_n 2, 1) := by decide +kernel
theorem dX10_cost_8 : decode cX10_cost 8 = .ok (.iload_n 3, 1) := by decide +kernel
theorem dX10_cost_9 : decode cX10_cost 9 = .ok (.invokevirtual 375, 3) := by decide +kernel
theorem dX10_cost_12 : decode cX10_cost 12 = .ok (.ifCond .ne 7, 3) := by decide +kernel
theorem dX10_cost_19 : decode cX10_cost 19 = .ok (.aload_n 0, 1) := by decide +kernel
theorem dX10_cost_20 : decode cX10_cost 20 = .ok (.iload_n 1, 1) := by decide +kernel
theorem dX10_cost_21 : decode cX10_cost 21 = .ok (.invokevirtual 302, 3) := by decide +kernel
theorem dX10_cost_24 : decode cX10_cost 24 = .ok (.aload_n 0, 1) := by decide +kernel
theorem dX10_cost_25 : decode cX10_cost 25 = .ok (.iload_n 1, 1) := by decide +kernel
theorem dX10_cost_26 : decode cX10_cost 26 = .ok (.iload_n 2, 1) := by decide +kernel
theorem dX10_cost_27 : decode cX10_cost 27 = .ok (.iload_n 3, 1) := by decide +kernel
theorem dX10_cost_28 : decode cX10_cost 28 = .ok (.invokevirtual 378, 3) := by decide +kernel
theorem dX10_cost_31 : decode cX10_cost 31 = .ok (.ldc2_w 345, 3) := by decide +kernel
theorem dX10_cost_34 : decode cX10_cost 34 = .ok (.ldiv, 1) := by decide +kernel
theorem dX10_cost_35 : decode cX10_cost 35 = .ok (.lreturn, 1) := by decide +kernel
theorem dX10_cost_15 : decode cX10_cost 15 = .ok (.ldc2_w 300, 3) := by decide +kernel
theorem dX10_cost_18 : decode cX10_cost 18 = .ok (.lreturn, 1) := by decide +kernel
theorem dX10_worth_0 : decode cX10_worth 0 = .ok (.aload_n 0, 1) := by decide +kernel
theorem dX10_worth_1 : decode cX10_worth 1 = .ok (.iconst 0, 1) := by decide +kernel
theorem dX10_worth_2 : decode cX10_worth 2 = .ok (.putfield 111, 3) := by decide +kernel
theorem dX10_worth_5 : decode cX10_worth 5 = .ok (.aload_n 0, 1) := by decide +kernel
theorem dX10_worth_6 : decode cX10_worth 6 = .ok (.iload_n 1, 1) := by decide +kernel
theorem dX10_worth_7 : decode cX10_worth 7 = .ok (.iload_n 2, 1) := by decide +kernel
theorem dX10_worth_8 : decode cX10_worth 8 = .ok (.iload_n 3, 1) := by decide +kernel
theorem dX10_worth_9 : decode cX10_worth 9 = .ok (.invokevirtual 375, 3) := by decide +kernel
theorem dX10_worth_12 : decode cX10_worth 12 = .ok (.ifCond .eq 10, 3) := by decide +kernel
theorem dX10_worth_15 : decode cX10_worth 15 = .ok (.iload_n 3, 1) := by decide +kernel
theorem dX10_worth_16 : decode cX10_worth 16 = .ok (.sipush 999, 3) := by decide +kernel
theorem dX10_worth_19 : decode cX10_worth 19 = .ok (.if_icmp .ne 7, 3) := by decide +kernel
theorem dX10_worth_26 : decode cX10_worth 26 = .ok (.aload_n 0, 1) := by decide +kernel
theorem dX10_worth_27 : decode cX10_worth 27 = .ok (.iload_n 1, 1) := by decide +kernel
theorem dX10_worth_28 : decode cX10_worth 28 = .ok (.invokevirtual 302, 3) := by decide +kernel
theorem dX10_worth_31 : decode cX10_worth 31 = .ok (.aload_n 0, 1) := by decide +kernel
theorem dX10_worth_32 : decode cX10_worth 32 = .ok (.iload_n 1, 1) := by decide +kernel
theorem dX10_worth_33 : decode cX10_worth 33 = .ok (.iload_n 2, 1) := by decide +kernel
theorem dX10_worth_34 : decode cX10_worth 34 = .ok (.iload_n 3, 1) := by decide +kernel
theorem dX10_worth_35 : decode cX10_worth 35 = .ok (.invokevirtual 378, 3) := by decide +kernel
theorem dX10_worth_38 : decode cX10_worth 38 = .ok (.aload_n 0, 1) := by decide +kernel
theorem dX10_worth_39 : decode cX10_worth 39 = .ok (.iload_n 1, 1) := by decide +kernel
theorem dX10_worth_40 : decode cX10_worth 40 = .ok (.iload_n 2, 1) := by decide +kernel
theorem dX10_worth_41 : decode cX10_worth 41 = .ok (.iload_n 3, 1) := by decide +kernel
theorem dX10_worth_42 : decode cX10_worth 42 = .ok (.iconst 1, 1) := by decide +kernel
theorem dX10_worth_43 : decode cX10_worth 43 = .ok (.iadd, 1) := by decide +kernel
theorem dX10_worth_44 : decode cX10_worth 44 = .ok (.invokevirtual 378, 3) := by decide +kernel
theorem dX10_worth_47 : decode cX10_worth 47 = .ok (.lsub, 1) := by decide +kernel
theorem dX10_worth_48 : decode cX10_worth 48 = .ok (.ldc2_w 345, 3) := by decide +kernel
theorem dX10_worth_51 : decode cX10_worth 51 = .ok (.ldiv, 1) := by decide +kernel
theorem dX10_worth_52 : decode cX10_worth 52 = .ok (.lreturn, 1) := by decide +kernel
theorem dX10_worth_22 : decode cX10_worth 22 = .ok (.ldc2_w 381, 3) := by decide +kernel
theorem dX10_worth_25 : decode cX10_worth 25 = .ok (.lreturn, 1) := by decide +kernel
theorem dX10_bestOf_0 : decode cX10_bestOf 0 = .ok (.iconst 0, 1) := by decide +kernel
theorem dX10_bestOf_1 : decode cX10_bestOf 1 = .ok (.istore_n 3, 1) := by decide +kernel
theorem dX10_bestOf_2 : decode cX10_bestOf 2 = .ok (.aload_n 0, 1) := by decide +kernel
theorem dX10_bestOf_3 : decode cX10_bestOf 3 = .ok (.iload_n 1, 1) := by decide +kernel
theorem dX10_bestOf_4 : decode cX10_bestOf 4 = .ok (.iload_n 2, 1) := by decide +kernel
theorem dX10_bestOf_5 : decode cX10_bestOf 5 = .ok (.iconst 0, 1) := by decide +kernel
theorem dX10_bestOf_6 : decode cX10_bestOf 6 = .ok (.invokevirtual 378, 3) := by decide +kernel
theorem dX10_bestOf_9 : decode cX10_bestOf 9 = .ok (.lstore 4, 2) := by decide +kernel
theorem dX10_bestOf_11 : decode cX10_bestOf 11 = .ok (.iconst 1, 1) := by decide +kernel
theorem dX10_bestOf_12 : decode cX10_bestOf 12 = .ok (.istore 6, 2) := by decide +kernel
theorem dX10_bestOf_14 : decode cX10_bestOf 14 = .ok (.iload 6, 2) := by decide +kernel
theorem dX10_bestOf_16 : decode cX10_bestOf 16 = .ok (.sipush 999, 3) := by decide +kernel
theorem dX10_bestOf_19 : decode cX10_bestOf 19 = .ok (.if_icmp .gt 37, 3) := by decide +kernel
theorem dX10_bestOf_56 : decode cX10_bestOf 56 = .ok (.iload_n 3, 1) := by decide +kernel
theorem dX10_bestOf_57 : decode cX10_bestOf 57 = .ok (.ireturn, 1) := by decide +kernel
theorem dX10_bestOf_22 : decode cX10_bestOf 22 = .ok (.aload_n 0, 1) := by decide +kernel
theorem dX10_bestOf_23 : decode cX10_bestOf 23 = .ok (.iload_n 1, 1) := by decide +kernel
theorem dX10_bestOf_24 : decode cX10_bestOf 24 = .ok (.iload_n 2, 1) := by decide +kernel
theorem dX10_bestOf_25 : decode cX10_bestOf 25 = .ok (.iload 6, 2) := by decide +kernel
theorem dX10_bestOf_27 : decode cX10_bestOf 27 = .ok (.invokevirtual 378, 3) := by decide +kernel
theorem dX10_bestOf_30 : decode cX10_bestOf 30 = .ok (.lstore 7, 2) := by decide +kernel
theorem dX10_bestOf_32 : decode cX10_bestOf 32 = .ok (.lload 7, 2) := by decide +kernel
theorem dX10_bestOf_34 : decode cX10_bestOf 34 = .ok (.lload 4, 2) := by decide +kernel
theorem dX10_bestOf_36 : decode cX10_bestOf 36 = .ok (.lcmp, 1) := by decide +kernel
theorem dX10_bestOf_37 : decode cX10_bestOf 37 = .ok (.ifCond .lt 6, 3) := by decide +kernel
theorem dX10_bestOf_43 : decode cX10_bestOf 43 = .ok (.iload 6, 2) := by decide +kernel
theorem dX10_bestOf_45 : decode cX10_bestOf 45 = .ok (.istore_n 3, 1) := by decide +kernel
theorem dX10_bestOf_46 : decode cX10_bestOf 46 = .ok (.lload 7, 2) := by decide +kernel
theorem dX10_bestOf_48 : decode cX10_bestOf 48 = .ok (.lstore 4, 2) := by decide +kernel
theorem dX10_bestOf_50 : decode cX10_bestOf 50 = .ok (.iinc 6 1, 3) := by decide +kernel
theorem dX10_bestOf_53 : decode cX10_bestOf 53 = .ok (.goto (-39), 3) := by decide +kernel
theorem dX10_bestOf_40 : decode cX10_bestOf 40 = .ok (.goto 10, 3) := by decide +kernel
theorem dX10_best_0 : decode cX10_best 0 = .ok (.aload_n 0, 1) := by decide +kernel
theorem dX10_best_1 : decode cX10_best 1 = .ok (.iconst 0, 1) := by decide +kernel
theorem dX10_best_2 : decode cX10_best 2 = .ok (.putfield 111, 3) := by decide +kernel
theorem dX10_best_5 : decode cX10_best 5 = .ok (.aload_n 0, 1) := by decide +kernel
theorem dX10_best_6 : decode cX10_best 6 = .ok (.iload_n 1, 1) := by decide +kernel
theorem dX10_best_7 : decode cX10_best 7 = .ok (.iload_n 2, 1) := by decide +kernel
theorem dX10_best_8 : decode cX10_best 8 = .ok (.iconst 0, 1) := by decide +kernel
theorem dX10_best_9 : decode cX10_best 9 = .ok (.invokevirtual 375, 3) := by decide +kernel
theorem dX10_best_12 : decode cX10_best 12 = .ok (.ifCond .ne 6, 3) := by decide +kernel
theorem dX10_best_18 : decode cX10_best 18 = .ok (.aload_n 0, 1) := by decide +kernel
theorem dX10_best_19 : decode cX10_best 19 = .ok (.iload_n 1, 1) := by decide +kernel
theorem dX10_best_20 : decode cX10_best 20 = .ok (.invokevirtual 302, 3) := by decide +kernel
theorem dX10_best_23 : decode cX10_best 23 = .ok (.aload_n 0, 1) := by decide +kernel
theorem dX10_best_24 : decode cX10_best 24 = .ok (.iload_n 1, 1) := by decide +kernel
theorem dX10_best_25 : decode cX10_best 25 = .ok (.iload_n 2, 1) := by decide +kernel
theorem dX10_best_26 : decode cX10_best 26 = .ok (.invokevirtual 383, 3) := by decide +kernel
theorem dX10_best_29 : decode cX10_best 29 = .ok (.ireturn, 1) := by decide +kernel
theorem dX10_best_15 : decode cX10_best 15 = .ok (.bipush (-2), 2) := by decide +kernel
theorem dX10_best_17 : decode cX10_best 17 = .ok (.ireturn, 1) := by decide +kernel
theorem dX10_lacking_0 : decode cX10_lacking 0 = .ok (.lconst 0, 1) := by decide +kernel
theorem dX10_lacking_1 : decode cX10_lacking 1 = .ok (.lstore 4, 2) := by decide +kernel
theorem dX10_lacking_3 : decode cX10_lacking 3 = .ok (.iconst 0, 1) := by decide +kernel
theorem dX10_lacking_4 : decode cX10_lacking 4 = .ok (.istore 6, 2) := by decide +kernel
theorem dX10_lacking_6 : decode cX10_lacking 6 = .ok (.iload 6, 2) := by decide +kernel
theorem dX10_lacking_8 : decode cX10_lacking 8 = .ok (.aload_n 0, 1) := by decide +kernel
theorem dX10_lacking_9 : decode cX10_lacking 9 = .ok (.invokevirtual 278, 3) := by decide +kernel
theorem dX10_lacking_12 : decode cX10_lacking 12 = .ok (.if_icmp .gt 37, 3) := by decide +kernel
theorem dX10_lacking_49 : decode cX10_lacking 49 = .ok (.lload 4, 2) := by decide +kernel
theorem dX10_lacking_51 : decode cX10_lacking 51 = .ok (.lreturn, 1) := by decide +kernel
theorem dX10_lacking_15 : decode cX10_lacking 15 = .ok (.lload 4, 2) := by decide +kernel
theorem dX10_lacking_17 : decode cX10_lacking 17 = .ok (.aload_n 0, 1) := by decide +kernel
theorem dX10_lacking_18 : decode cX10_lacking 18 = .ok (.iload_n 1, 1) := by decide +kernel
theorem dX10_lacking_19 : decode cX10_lacking 19 = .ok (.iload_n 2, 1) := by decide +kernel
theorem dX10_lacking_20 : decode cX10_lacking 20 = .ok (.iload 6, 2) := by decide +kernel
theorem dX10_lacking_22 : decode cX10_lacking 22 = .ok (.invokevirtual 353, 3) := by decide +kernel
theorem dX10_lacking_25 : decode cX10_lacking 25 = .ok (.iload_n 3, 1) := by decide +kernel
theorem dX10_lacking_26 : decode cX10_lacking 26 = .ok (.if_icmp .le 13, 3) := by decide +kernel
theorem dX10_lacking_39 : decode cX10_lacking 39 = .ok (.lconst 0, 1) := by decide +kernel
theorem dX10_lacking_40 : decode cX10_lacking 40 = .ok (.ladd, 1) := by decide +kernel
theorem dX10_lacking_41 : decode cX10_lacking 41 = .ok (.lstore 4, 2) := by decide +kernel
theorem dX10_lacking_43 : decode cX10_lacking 43 = .ok (.iinc 6 1, 3) := by decide +kernel
theorem dX10_lacking_46 : decode cX10_lacking 46 = .ok (.goto (-40), 3) := by decide +kernel
theorem dX10_lacking_29 : decode cX10_lacking 29 = .ok (.aload_n 0, 1) := by decide +kernel
theorem dX10_lacking_30 : decode cX10_lacking 30 = .ok (.getfield 71, 3) := by decide +kernel
theorem dX10_lacking_33 : decode cX10_lacking 33 = .ok (.iload 6, 2) := by decide +kernel
theorem dX10_lacking_35 : decode cX10_lacking 35 = .ok (.laload, 1) := by decide +kernel
theorem dX10_lacking_36 : decode cX10_lacking 36 = .ok (.goto 4, 3) := by decide +kernel
theorem dX10_sure_0 : decode cX10_sure 0 = .ok (.aload_n 0, 1) := by decide +kernel
theorem dX10_sure_1 : decode cX10_sure 1 = .ok (.iconst 0, 1) := by decide +kernel
theorem dX10_sure_2 : decode cX10_sure 2 = .ok (.putfield 111, 3) := by decide +kernel
theorem dX10_sure_5 : decode cX10_sure 5 = .ok (.aload_n 0, 1) := by decide +kernel
theorem dX10_sure_6 : decode cX10_sure 6 = .ok (.iload_n 1, 1) := by decide +kernel
theorem dX10_sure_7 : decode cX10_sure 7 = .ok (.iload_n 2, 1) := by decide +kernel
theorem dX10_sure_8 : decode cX10_sure 8 = .ok (.iload_n 3, 1) := by decide +kernel
theorem dX10_sure_9 : decode cX10_sure 9 = .ok (.invokevirtual 375, 3) := by decide +kernel
theorem dX10_sure_12 : decode cX10_sure 12 = .ok (.ifCond .ne 7, 3) := by decide +kernel
theorem dX10_sure_19 : decode cX10_sure 19 = .ok (.aload_n 0, 1) := by decide +kernel
theorem dX10_sure_20 : decode cX10_sure 20 = .ok (.iload_n 1, 1) := by decide +kernel
theorem dX10_sure_21 : decode cX10_sure 21 = .ok (.invokevirtual 302, 3) := by decide +kernel
theorem dX10_sure_24 : decode cX10_sure 24 = .ok (.ldc2_w 284, 3) := by decide +kernel
theorem dX10_sure_27 : decode cX10_sure 27 = .ok (.aload_n 0, 1) := by decide +kernel
theorem dX10_sure_28 : decode cX10_sure 28 = .ok (.iload_n 1, 1) := by decide +kernel
theorem dX10_sure_29 : decode cX10_sure 29 = .ok (.iload_n 2, 1) := by decide +kernel
theorem dX10_sure_30 : decode cX10_sure 30 = .ok (.iload_n 3, 1) := by decide +kernel
theorem dX10_sure_31 : decode cX10_sure 31 = .ok (.invokevirtual 386, 3) := by decide +kernel
theorem dX10_sure_34 : decode cX10_sure 34 = .ok (.lsub, 1) := by decide +kernel
theorem dX10_sure_35 : decode cX10_sure 35 = .ok (.lreturn, 1) := by decide +kernel
theorem dX10_sure_15 : decode cX10_sure 15 = .ok (.ldc2_w 300, 3) := by decide +kernel
theorem dX10_sure_18 : decode cX10_sure 18 = .ok (.lreturn, 1) := by decide +kernel
theorem dX10_need_0 : decode cX10_need 0 = .ok (.aload_n 0, 1) := by decide +kernel
theorem dX10_need_1 : decode cX10_need 1 = .ok (.iconst 0, 1) := by decide +kernel
theorem dX10_need_2 : decode cX10_need 2 = .ok (.putfield 111, 3) := by decide +kernel
theorem dX10_need_5 : decode cX10_need 5 = .ok (.aload_n 0, 1) := by decide +kernel
theorem dX10_need_6 : decode cX10_need 6 = .ok (.iload_n 1, 1) := by decide +kernel
theorem dX10_need_7 : decode cX10_need 7 = .ok (.iload_n 2, 1) := by decide +kernel
theorem dX10_need_8 : decode cX10_need 8 = .ok (.iconst 0, 1) := by decide +kernel
theorem dX10_need_9 : decode cX10_need 9 = .ok (.invokevirtual 375, 3) := by decide +kernel
theorem dX10_need_12 : decode cX10_need 12 = .ok (.ifCond .eq 15, 3) := by decide +kernel
theorem dX10_need_15 : decode cX10_need 15 = .ok (.iload_n 3, 1) := by decide +kernel
theorem dX10_need_16 : decode cX10_need 16 = .ok (.i2l, 1) := by decide +kernel
theorem dX10_need_17 : decode cX10_need 17 = .ok (.lconst 0, 1) := by decide +kernel
theorem dX10_need_18 : decode cX10_need 18 = .ok (.ldc2_w 343, 3) := by decide +kernel
theorem dX10_need_21 : decode cX10_need 21 = .ok (.invokestatic 116, 3) := by decide +kernel
theorem dX10_need_24 : decode cX10_need 24 = .ok (.ifCond .ne 6, 3) := by decide +kernel
theorem dX10_need_30 : decode cX10_need 30 = .ok (.aload_n 0, 1) := by decide +kernel
theorem dX10_need_31 : decode cX10_need 31 = .ok (.iload_n 1, 1) := by decide +kernel
theorem dX10_need_32 : decode cX10_need 32 = .ok (.invokevirtual 302, 3) := by decide +kernel
theorem dX10_need_35 : decode cX10_need 35 = .ok (.iconst 0, 1) := by decide +kernel
theorem dX10_need_36 : decode cX10_need 36 = .ok (.istore 4, 2) := by decide +kernel
theorem dX10_need_38 : decode cX10_need 38 = .ok (.iload 4, 2) := by decide +kernel
theorem dX10_need_40 : decode cX10_need 40 = .ok (.sipush 999, 3) := by decide +kernel
theorem dX10_need_43 : decode cX10_need 43 = .ok (.if_icmp .gt 30, 3) := by decide +kernel
theorem dX10_need_73 : decode cX10_need 73 = .ok (.iconst (-1), 1) := by decide +kernel
theorem dX10_need_74 : decode cX10_need 74 = .ok (.ireturn, 1) := by decide +kernel
theorem dX10_need_46 : decode cX10_need 46 = .ok (.aload_n 0, 1) := by decide +kernel
theorem dX10_need_47 : decode cX10_need 47 = .ok (.iload_n 1, 1) := by decide +kernel
theorem dX10_need_48 : decode cX10_need 48 = .ok (.iload_n 2, 1) := by decide +kernel
theorem dX10_need_49 : decode cX10_need 49 = .ok (.iload 4, 2) := by decide +kernel
theorem dX10_need_51 : decode cX10_need 51 = .ok (.invokevirtual 386, 3) := by decide +kernel
theorem dX10_need_54 : decode cX10_need 54 = .ok (.iload_n 3, 1) := by decide +kernel
theorem dX10_need_55 : decode cX10_need 55 = .ok (.i2l, 1) := by decide +kernel
theorem dX10_need_56 : decode cX10_need 56 = .ok (.ldc2_w 345, 3) := by decide +kernel
theorem dX10_need_59 : decode cX10_need 59 = .ok (.lmul, 1) := by decide +kernel
theorem dX10_need_60 : decode cX10_need 60 = .ok (.lcmp, 1) := by decide +kernel
theorem dX10_need_61 : decode cX10_need 61 = .ok (.ifCond .gt 6, 3) := by decide +kernel
theorem dX10_need_67 : decode cX10_need 67 = .ok (.iinc 4 1, 3) := by decide +kernel
theorem dX10_need_70 : decode cX10_need 70 = .ok (.goto (-32), 3) := by decide +kernel
theorem dX10_need_64 : decode cX10_need 64 = .ok (.iload 4, 2) := by decide +kernel
theorem dX10_need_66 : decode cX10_need 66 = .ok (.ireturn, 1) := by decide +kernel
theorem dX10_need_27 : decode cX10_need 27 = .ok (.bipush (-2), 2) := by decide +kernel
theorem dX10_need_29 : decode cX10_need 29 = .ok (.ireturn, 1) := by decide +kernel
theorem dX10_sends_0 : decode cX10_sends 0 = .ok (.iload 5, 2) := by decide +kernel
theorem dX10_sends_2 : decode cX10_sends 2 = .ok (.iload 6, 2) := by decide +kernel
theorem dX10_sends_4 : decode cX10_sends 4 = .ok (.aload_n 0, 1) := by decide +kernel
theorem dX10_sends_5 : decode cX10_sends 5 = .ok (.getfield 55, 3) := by decide +kernel
theorem dX10_sends_8 : decode cX10_sends 8 = .ok (.iconst 1, 1) := by decide +kernel
theorem dX10_sends_9 : decode cX10_sends 9 = .ok (.iaload, 1) := by decide +kernel
theorem dX10_sends_10 : decode cX10_sends 10 = .ok (.imul, 1) := by decide +kernel
theorem dX10_sends_11 : decode cX10_sends 11 = .ok (.iadd, 1) := by decide +kernel
theorem dX10_sends_12 : decode cX10_sends 12 = .ok (.istore 7, 2) := by decide +kernel
theorem dX10_sends_14 : decode cX10_sends 14 = .ok (.ldc2_w 343, 3) := by decide +kernel
theorem dX10_sends_17 : decode cX10_sends 17 = .ok (.iload 6, 2) := by decide +kernel
theorem dX10_sends_19 : decode cX10_sends 19 = .ok (.i2l, 1) := by decide +kernel
theorem dX10_sends_20 : decode cX10_sends 20 = .ok (.lmul, 1) := by decide +kernel
theorem dX10_sends_21 : decode cX10_sends 21 = .ok (.aload_n 0, 1) := by decide +kernel
theorem dX10_sends_22 : decode cX10_sends 22 = .ok (.getfield 55, 3) := by decide +kernel
theorem dX10_sends_25 : decode cX10_sends 25 = .ok (.iconst 2, 1) := by decide +kernel
theorem dX10_sends_26 : decode cX10_sends 26 = .ok (.iaload, 1) := by decide +kernel
theorem dX10_sends_27 : decode cX10_sends 27 = .ok (.i2l, 1) := by decide +kernel
theorem dX10_sends_28 : decode cX10_sends 28 = .ok (.aload_n 0, 1) := by decide +kernel
theorem dX10_sends_29 : decode cX10_sends 29 = .ok (.getfield 55, 3) := by decide +kernel
theorem dX10_sends_32 : decode cX10_sends 32 = .ok (.iconst 1, 1) := by decide +kernel
theorem dX10_sends_33 : decode cX10_sends 33 = .ok (.iaload, 1) := by decide +kernel
theorem dX10_sends_34 : decode cX10_sends 34 = .ok (.i2l, 1) := by decide +kernel
theorem dX10_sends_35 : decode cX10_sends 35 = .ok (.aload_n 0, 1) := by decide +kernel
theorem dX10_sends_36 : decode cX10_sends 36 = .ok (.iload_n 2, 1) := by decide +kernel
theorem dX10_sends_37 : decode cX10_sends 37 = .ok (.invokevirtual 363, 3) := by decide +kernel
theorem dX10_sends_40 : decode cX10_sends 40 = .ok (.i2l, 1) := by decide +kernel
theorem dX10_sends_41 : decode cX10_sends 41 = .ok (.lmul, 1) := by decide +kernel
theorem dX10_sends_42 : decode cX10_sends 42 = .ok (.ladd, 1) := by decide +kernel
theorem dX10_sends_43 : decode cX10_sends 43 = .ok (.lmul, 1) := by decide +kernel
theorem dX10_sends_44 : decode cX10_sends 44 = .ok (.lstore 8, 2) := by decide +kernel
theorem dX10_sends_46 : decode cX10_sends 46 = .ok (.ldc2_w 343, 3) := by decide +kernel
theorem dX10_sends_49 : decode cX10_sends 49 = .ok (.aload_n 0, 1) := by decide +kernel
theorem dX10_sends_50 : decode cX10_sends 50 = .ok (.iload_n 2, 1) := by decide +kernel
theorem dX10_sends_51 : decode cX10_sends 51 = .ok (.aload_n 0, 1) := by decide +kernel
theorem dX10_sends_52 : decode cX10_sends 52 = .ok (.iload_n 1, 1) := by decide +kernel
theorem dX10_sends_53 : decode cX10_sends 53 = .ok (.iload_n 2, 1) := by decide +kernel
theorem dX10_sends_54 : decode cX10_sends 54 = .ok (.iload_n 3, 1) := by decide +kernel
theorem dX10_sends_55 : decode cX10_sends 55 = .ok (.invokevirtual 353, 3) := by decide +kernel
theorem dX10_sends_58 : decode cX10_sends 58 = .ok (.iload 7, 2) := by decide +kernel
theorem dX10_sends_60 : decode cX10_sends 60 = .ok (.invokevirtual 366, 3) := by decide +kernel
theorem dX10_sends_63 : decode cX10_sends 63 = .ok (.lmul, 1) := by decide +kernel
theorem dX10_sends_64 : decode cX10_sends 64 = .ok (.lstore 10, 2) := by decide +kernel
theorem dX10_sends_66 : decode cX10_sends 66 = .ok (.aload_n 0, 1) := by decide +kernel
theorem dX10_sends_67 : decode cX10_sends 67 = .ok (.iload_n 1, 1) := by decide +kernel
theorem dX10_sends_68 : decode cX10_sends 68 = .ok (.invokevirtual 293, 3) := by decide +kernel
theorem dX10_sends_71 : decode cX10_sends 71 = .ok (.i2l, 1) := by decide +kernel
theorem dX10_sends_72 : decode cX10_sends 72 = .ok (.lload 10, 2) := by decide +kernel
theorem dX10_sends_74 : decode cX10_sends 74 = .ok (.lmul, 1) := by decide +kernel
theorem dX10_sends_75 : decode cX10_sends 75 = .ok (.bipush 100, 2) := by decide +kernel
theorem dX10_sends_77 : decode cX10_sends 77 = .ok (.aload_n 0, 1) := by decide +kernel
theorem dX10_sends_78 : decode cX10_sends 78 = .ok (.iload_n 1, 1) := by decide +kernel
theorem dX10_sends_79 : decode cX10_sends 79 = .ok (.invokevirtual 293, 3) := by decide +kernel
theorem dX10_sends_82 : decode cX10_sends 82 = .ok (.isub, 1) := by decide +kernel
theorem dX10_sends_83 : decode cX10_sends 83 = .ok (.i2l, 1) := by decide +kernel
theorem dX10_sends_84 : decode cX10_sends 84 = .ok (.aload_n 0, 1) := by decide +kernel
theorem dX10_sends_85 : decode cX10_sends 85 = .ok (.getfield 99, 3) := by decide +kernel
theorem dX10_sends_88 : decode cX10_sends 88 = .ok (.iload_n 3, 1) := by decide +kernel
theorem dX10_sends_89 : decode cX10_sends 89 = .ok (.iconst 1, 1) := by decide +kernel
theorem dX10_sends_90 : decode cX10_sends 90 = .ok (.iadd, 1) := by decide +kernel
theorem dX10_sends_91 : decode cX10_sends 91 = .ok (.iconst 1, 1) := by decide +kernel
theorem dX10_sends_92 : decode cX10_sends 92 = .ok (.iload 7, 2) := by decide +kernel
theorem dX10_sends_94 : decode cX10_sends 94 = .ok (.invokestatic 392, 3) := by decide +kernel
theorem dX10_sends_97 : decode cX10_sends 97 = .ok (.laload, 1) := by decide +kernel
theorem dX10_sends_98 : decode cX10_sends 98 = .ok (.lmul, 1) := by decide +kernel
theorem dX10_sends_99 : decode cX10_sends 99 = .ok (.ladd, 1) := by decide +kernel
theorem dX10_sends_100 : decode cX10_sends 100 = .ok (.ldc2_w 282, 3) := by decide +kernel
theorem dX10_sends_103 : decode cX10_sends 103 = .ok (.ldiv, 1) := by decide +kernel
theorem dX10_sends_104 : decode cX10_sends 104 = .ok (.lstore 12, 2) := by decide +kernel
theorem dX10_sends_106 : decode cX10_sends 106 = .ok (.aload_n 0, 1) := by decide +kernel
theorem dX10_sends_107 : decode cX10_sends 107 = .ok (.iload_n 3, 1) := by decide +kernel
theorem dX10_sends_108 : decode cX10_sends 108 = .ok (.iload 4, 2) := by decide +kernel
theorem dX10_sends_110 : decode cX10_sends 110 = .ok (.invokevirtual 286, 3) := by decide +kernel
theorem dX10_sends_113 : decode cX10_sends 113 = .ok (.istore 14, 2) := by decide +kernel
theorem dX10_sends_115 : decode cX10_sends 115 = .ok (.lload 8, 2) := by decide +kernel
theorem dX10_sends_117 : decode cX10_sends 117 = .ok (.iload 14, 2) := by decide +kernel
theorem dX10_sends_119 : decode cX10_sends 119 = .ok (.i2l, 1) := by decide +kernel
theorem dX10_sends_120 : decode cX10_sends 120 = .ok (.lload 12, 2) := by decide +kernel
theorem dX10_sends_122 : decode cX10_sends 122 = .ok (.lmul, 1) := by decide +kernel
theorem dX10_sends_123 : decode cX10_sends 123 = .ok (.bipush 100, 2) := by decide +kernel
theorem dX10_sends_125 : decode cX10_sends 125 = .ok (.iload 14, 2) := by decide +kernel
theorem dX10_sends_127 : decode cX10_sends 127 = .ok (.isub, 1) := by decide +kernel
theorem dX10_sends_128 : decode cX10_sends 128 = .ok (.i2l, 1) := by decide +kernel
theorem dX10_sends_129 : decode cX10_sends 129 = .ok (.aload_n 0, 1) := by decide +kernel
theorem dX10_sends_130 : decode cX10_sends 130 = .ok (.getfield 99, 3) := by decide +kernel
theorem dX10_sends_133 : decode cX10_sends 133 = .ok (.iload_n 3, 1) := by decide +kernel
theorem dX10_sends_134 : decode cX10_sends 134 = .ok (.iconst 1, 1) := by decide +kernel
theorem dX10_sends_135 : decode cX10_sends 135 = .ok (.iadd, 1) := by decide +kernel
theorem dX10_sends_136 : decode cX10_sends 136 = .ok (.iconst 0, 1) := by decide +kernel
theorem dX10_sends_137 : decode cX10_sends 137 = .ok (.iload 7, 2) := by decide +kernel
theorem dX10_sends_139 : decode cX10_sends 139 = .ok (.invokestatic 392, 3) := by decide +kernel
theorem dX10_sends_142 : decode cX10_sends 142 = .ok (.laload, 1) := by decide +kernel
theorem dX10_sends_143 : decode cX10_sends 143 = .ok (.lmul, 1) := by decide +kernel
theorem dX10_sends_144 : decode cX10_sends 144 = .ok (.ladd, 1) := by decide +kernel
theorem dX10_sends_145 : decode cX10_sends 145 = .ok (.ldc2_w 282, 3) := by decide +kernel
theorem dX10_sends_148 : decode cX10_sends 148 = .ok (.ldiv, 1) := by decide +kernel
theorem dX10_sends_149 : decode cX10_sends 149 = .ok (.ladd, 1) := by decide +kernel
theorem dX10_sends_150 : decode cX10_sends 150 = .ok (.lreturn, 1) := by decide +kernel
theorem dX10_canSend_0 : decode cX10_canSend 0 = .ok (.iload_n 2, 1) := by decide +kernel
theorem dX10_canSend_1 : decode cX10_canSend 1 = .ok (.aload_n 0, 1) := by decide +kernel
theorem dX10_canSend_2 : decode cX10_canSend 2 = .ok (.getfield 55, 3) := by decide +kernel
theorem dX10_canSend_5 : decode cX10_canSend 5 = .ok (.iconst 0, 1) := by decide +kernel
theorem dX10_canSend_6 : decode cX10_canSend 6 = .ok (.iaload, 1) := by decide +kernel
theorem dX10_canSend_7 : decode cX10_canSend 7 = .ok (.if_icmp .gt 23, 3) := by decide +kernel
theorem dX10_canSend_30 : decode cX10_canSend 30 = .ok (.iconst 0, 1) := by decide +kernel
theorem dX10_canSend_31 : decode cX10_canSend 31 = .ok (.ireturn, 1) := by decide +kernel
theorem dX10_canSend_10 : decode cX10_canSend 10 = .ok (.iload_n 1, 1) := by decide +kernel
theorem dX10_canSend_11 : decode cX10_canSend 11 = .ok (.iload_n 2, 1) := by decide +kernel
theorem dX10_canSend_12 : decode cX10_canSend 12 = .ok (.aload_n 0, 1) := by decide +kernel
theorem dX10_canSend_13 : decode cX10_canSend 13 = .ok (.getfield 55, 3) := by decide +kernel
theorem dX10_canSend_16 : decode cX10_canSend 16 = .ok (.iconst 1, 1) := by decide +kernel
theorem dX10_canSend_17 : decode cX10_canSend 17 = .ok (.iaload, 1) := by decide +kernel
theorem dX10_canSend_18 : decode cX10_canSend 18 = .ok (.imul, 1) := by decide +kernel
theorem dX10_canSend_19 : decode cX10_canSend 19 = .ok (.iadd, 1) := by decide +kernel
theorem dX10_canSend_20 : decode cX10_canSend 20 = .ok (.sipush 600, 3) := by decide +kernel
theorem dX10_canSend_23 : decode cX10_canSend 23 = .ok (.if_icmp .gt 7, 3) := by decide +kernel
theorem dX10_canSend_26 : decode cX10_canSend 26 = .ok (.iconst 1, 1) := by decide +kernel
theorem dX10_canSend_27 : decode cX10_canSend 27 = .ok (.goto 4, 3) := by decide +kernel
theorem dX10_fewest_0 : decode cX10_fewest 0 = .ok (.iconst 0, 1) := by decide +kernel
theorem dX10_fewest_1 : decode cX10_fewest 1 = .ok (.istore 6, 2) := by decide +kernel
theorem dX10_fewest_3 : decode cX10_fewest 3 = .ok (.aload_n 0, 1) := by decide +kernel
theorem dX10_fewest_4 : decode cX10_fewest 4 = .ok (.iload_n 1, 1) := by decide +kernel
theorem dX10_fewest_5 : decode cX10_fewest 5 = .ok (.iload_n 2, 1) := by decide +kernel
theorem dX10_fewest_6 : decode cX10_fewest 6 = .ok (.iload_n 3, 1) := by decide +kernel
theorem dX10_fewest_7 : decode cX10_fewest 7 = .ok (.iload 4, 2) := by decide +kernel
theorem dX10_fewest_9 : decode cX10_fewest 9 = .ok (.iload 5, 2) := by decide +kernel
theorem dX10_fewest_11 : decode cX10_fewest 11 = .ok (.iconst 0, 1) := by decide +kernel
theorem dX10_fewest_12 : decode cX10_fewest 12 = .ok (.invokevirtual 396, 3) := by decide +kernel
theorem dX10_fewest_15 : decode cX10_fewest 15 = .ok (.lstore 7, 2) := by decide +kernel
theorem dX10_fewest_17 : decode cX10_fewest 17 = .ok (.iconst 1, 1) := by decide +kernel
theorem dX10_fewest_18 : decode cX10_fewest 18 = .ok (.istore 9, 2) := by decide +kernel
theorem dX10_fewest_20 : decode cX10_fewest 20 = .ok (.aload_n 0, 1) := by decide +kernel
theorem dX10_fewest_21 : decode cX10_fewest 21 = .ok (.iload 5, 2) := by decide +kernel
theorem dX10_fewest_23 : decode cX10_fewest 23 = .ok (.iload 9, 2) := by decide +kernel
theorem dX10_fewest_25 : decode cX10_fewest 25 = .ok (.invokevirtual 400, 3) := by decide +kernel
theorem dX10_fewest_28 : decode cX10_fewest 28 = .ok (.ifCond .eq 43, 3) := by decide +kernel
theorem dX10_fewest_31 : decode cX10_fewest 31 = .ok (.aload_n 0, 1) := by decide +kernel
theorem dX10_fewest_32 : decode cX10_fewest 32 = .ok (.iload_n 1, 1) := by decide +kernel
theorem dX10_fewest_33 : decode cX10_fewest 33 = .ok (.iload_n 2, 1) := by decide +kernel
theorem dX10_fewest_34 : decode cX10_fewest 34 = .ok (.iload_n 3, 1) := by decide +kernel
theorem dX10_fewest_35 : decode cX10_fewest 35 = .ok (.iload 4, 2) := by decide +kernel
theorem dX10_fewest_37 : decode cX10_fewest 37 = .ok (.iload 5, 2) := by decide +kernel
theorem dX10_fewest_39 : decode cX10_fewest 39 = .ok (.iload 9, 2) := by decide +kernel
theorem dX10_fewest_41 : decode cX10_fewest 41 = .ok (.invokevirtual 396, 3) := by decide +kernel
theorem dX10_fewest_44 : decode cX10_fewest 44 = .ok (.lstore 10, 2) := by decide +kernel
theorem dX10_fewest_46 : decode cX10_fewest 46 = .ok (.lload 10, 2) := by decide +kernel
theorem dX10_fewest_48 : decode cX10_fewest 48 = .ok (.lload 7, 2) := by decide +kernel
theorem dX10_fewest_50 : decode cX10_fewest 50 = .ok (.lcmp, 1) := by decide +kernel
theorem dX10_fewest_51 : decode cX10_fewest 51 = .ok (.ifCond .lt 6, 3) := by decide +kernel
theorem dX10_fewest_57 : decode cX10_fewest 57 = .ok (.iload 9, 2) := by decide +kernel
theorem dX10_fewest_59 : decode cX10_fewest 59 = .ok (.istore 6, 2) := by decide +kernel
theorem dX10_fewest_61 : decode cX10_fewest 61 = .ok (.lload 10, 2) := by decide +kernel
theorem dX10_fewest_63 : decode cX10_fewest 63 = .ok (.lstore 7, 2) := by decide +kernel
theorem dX10_fewest_65 : decode cX10_fewest 65 = .ok (.iinc 9 1, 3) := by decide +kernel
theorem dX10_fewest_68 : decode cX10_fewest 68 = .ok (.goto (-48), 3) := by decide +kernel
theorem dX10_fewest_54 : decode cX10_fewest 54 = .ok (.goto 11, 3) := by decide +kernel
theorem dX10_fewest_71 : decode cX10_fewest 71 = .ok (.iload 6, 2) := by decide +kernel
theorem dX10_fewest_73 : decode cX10_fewest 73 = .ok (.ireturn, 1) := by decide +kernel
theorem dX10_comes_0 : decode cX10_comes 0 = .ok (.iconst 0, 1) := by decide +kernel
theorem dX10_comes_1 : decode cX10_comes 1 = .ok (.istore_n 3, 1) := by decide +kernel
theorem dX10_comes_2 : decode cX10_comes 2 = .ok (.iload_n 3, 1) := by decide +kernel
theorem dX10_comes_3 : decode cX10_comes 3 = .ok (.sipush 600, 3) := by decide +kernel
theorem dX10_comes_6 : decode cX10_comes 6 = .ok (.if_icmp .gt 67, 3) := by decide +kernel
theorem dX10_comes_73 : decode cX10_comes 73 = .ok (.aload_n 0, 1) := by decide +kernel
theorem dX10_comes_74 : decode cX10_comes 74 = .ok (.invokevirtual 278, 3) := by decide +kernel
theorem dX10_comes_77 : decode cX10_comes 77 = .ok (.istore_n 3, 1) := by decide +kernel
theorem dX10_comes_78 : decode cX10_comes 78 = .ok (.iload_n 3, 1) := by decide +kernel
theorem dX10_comes_79 : decode cX10_comes 79 = .ok (.ifCond .le 103, 3) := by decide +kernel
theorem dX10_comes_182 : decode cX10_comes 182 = .ok (.return_, 1) := by decide +kernel
theorem dX10_comes_82 : decode cX10_comes 82 = .ok (.iconst 0, 1) := by decide +kernel
theorem dX10_comes_83 : decode cX10_comes 83 = .ok (.istore 4, 2) := by decide +kernel
theorem dX10_comes_85 : decode cX10_comes 85 = .ok (.iload 4, 2) := by decide +kernel
theorem dX10_comes_87 : decode cX10_comes 87 = .ok (.iconst 2, 1) := by decide +kernel
theorem dX10_comes_88 : decode cX10_comes 88 = .ok (.if_icmp .ge 88, 3) := by decide +kernel
theorem dX10_comes_176 : decode cX10_comes 176 = .ok (.iinc 3 (-1), 3) := by decide +kernel
theorem dX10_comes_179 : decode cX10_comes 179 = .ok (.goto (-101), 3) := by decide +kernel
theorem dX10_comes_91 : decode cX10_comes 91 = .ok (.iconst 0, 1) := by decide +kernel
theorem dX10_comes_92 : decode cX10_comes 92 = .ok (.istore 5, 2) := by decide +kernel
theorem dX10_comes_94 : decode cX10_comes 94 = .ok (.iload 5, 2) := by decide +kernel
theorem dX10_comes_96 : decode cX10_comes 96 = .ok (.sipush 600, 3) := by decide +kernel
theorem dX10_comes_99 : decode cX10_comes 99 = .ok (.if_icmp .gt 71, 3) := by decide +kernel
theorem dX10_comes_170 : decode cX10_comes 170 = .ok (.iinc 4 1, 3) := by decide +kernel
theorem dX10_comes_173 : decode cX10_comes 173 = .ok (.goto (-88), 3) := by decide +kernel
theorem dX10_comes_102 : decode cX10_comes 102 = .ok (.aload_n 0, 1) := by decide +kernel
theorem dX10_comes_103 : decode cX10_comes 103 = .ok (.getfield 99, 3) := by decide +kernel
theorem dX10_comes_106 : decode cX10_comes 106 = .ok (.iload_n 3, 1) := by decide +kernel
theorem dX10_comes_107 : decode cX10_comes 107 = .ok (.iload 4, 2) := by decide +kernel
theorem dX10_comes_109 : decode cX10_comes 109 = .ok (.iconst 1, 1) := by decide +kernel
theorem dX10_comes_110 : decode cX10_comes 110 = .ok (.if_icmp .ne 7, 3) := by decide +kernel
theorem dX10_comes_117 : decode cX10_comes 117 = .ok (.iconst 0, 1) := by decide +kernel
theorem dX10_comes_118 : decode cX10_comes 118 = .ok (.iload 5, 2) := by decide +kernel
theorem dX10_comes_120 : decode cX10_comes 120 = .ok (.invokestatic 392, 3) := by decide +kernel
theorem dX10_comes_123 : decode cX10_comes 123 = .ok (.aload_n 0, 1) := by decide +kernel
theorem dX10_comes_124 : decode cX10_comes 124 = .ok (.iload_n 1, 1) := by decide +kernel
theorem dX10_comes_125 : decode cX10_comes 125 = .ok (.iload_n 2, 1) := by decide +kernel
theorem dX10_comes_126 : decode cX10_comes 126 = .ok (.iload_n 3, 1) := by decide +kernel
theorem dX10_comes_127 : decode cX10_comes 127 = .ok (.iload 4, 2) := by decide +kernel
theorem dX10_comes_129 : decode cX10_comes 129 = .ok (.iconst 1, 1) := by decide +kernel
theorem dX10_comes_130 : decode cX10_comes 130 = .ok (.if_icmp .ne 7, 3) := by decide +kernel
theorem dX10_comes_137 : decode cX10_comes 137 = .ok (.iconst 0, 1) := by decide +kernel
theorem dX10_comes_138 : decode cX10_comes 138 = .ok (.iload 5, 2) := by decide +kernel
theorem dX10_comes_140 : decode cX10_comes 140 = .ok (.aload_n 0, 1) := by decide +kernel
theorem dX10_comes_141 : decode cX10_comes 141 = .ok (.iload_n 1, 1) := by decide +kernel
theorem dX10_comes_142 : decode cX10_comes 142 = .ok (.iload_n 2, 1) := by decide +kernel
theorem dX10_comes_143 : decode cX10_comes 143 = .ok (.iload_n 3, 1) := by decide +kernel
theorem dX10_comes_144 : decode cX10_comes 144 = .ok (.iload 4, 2) := by decide +kernel
theorem dX10_comes_146 : decode cX10_comes 146 = .ok (.iconst 1, 1) := by decide +kernel
theorem dX10_comes_147 : decode cX10_comes 147 = .ok (.if_icmp .ne 7, 3) := by decide +kernel
theorem dX10_comes_154 : decode cX10_comes 154 = .ok (.iconst 0, 1) := by decide +kernel
theorem dX10_comes_155 : decode cX10_comes 155 = .ok (.iload 5, 2) := by decide +kernel
theorem dX10_comes_157 : decode cX10_comes 157 = .ok (.invokevirtual 403, 3) := by decide +kernel
theorem dX10_comes_160 : decode cX10_comes 160 = .ok (.invokevirtual 396, 3) := by decide +kernel
theorem dX10_comes_163 : decode cX10_comes 163 = .ok (.lastore, 1) := by decide +kernel
theorem dX10_comes_164 : decode cX10_comes 164 = .ok (.iinc 5 1, 3) := by decide +kernel
theorem dX10_comes_167 : decode cX10_comes 167 = .ok (.goto (-73), 3) := by decide +kernel
theorem dX10_comes_113 : decode cX10_comes 113 = .ok (.iconst 1, 1) := by decide +kernel
theorem dX10_comes_114 : decode cX10_comes 114 = .ok (.goto 4, 3) := by decide +kernel
theorem dX10_comes_133 : decode cX10_comes 133 = .ok (.iconst 1, 1) := by decide +kernel
theorem dX10_comes_134 : decode cX10_comes 134 = .ok (.goto 4, 3) := by decide +kernel
theorem dX10_comes_150 : decode cX10_comes 150 = .ok (.iconst 1, 1) := by decide +kernel
theorem dX10_comes_151 : decode cX10_comes 151 = .ok (.goto 4, 3) := by decide +kernel
theorem dX10_comes_9 : decode cX10_comes 9 = .ok (.aload_n 0, 1) := by decide +kernel
theorem dX10_comes_10 : decode cX10_comes 10 = .ok (.getfield 99, 3) := by decide +kernel
theorem dX10_comes_13 : decode cX10_comes 13 = .ok (.aload_n 0, 1) := by decide +kernel
theorem dX10_comes_14 : decode cX10_comes 14 = .ok (.invokevirtual 278, 3) := by decide +kernel
theorem dX10_comes_17 : decode cX10_comes 17 = .ok (.iconst 1, 1) := by decide +kernel
theorem dX10_comes_18 : decode cX10_comes 18 = .ok (.iadd, 1) := by decide +kernel
theorem dX10_comes_19 : decode cX10_comes 19 = .ok (.iconst 0, 1) := by decide +kernel
theorem dX10_comes_20 : decode cX10_comes 20 = .ok (.iload_n 3, 1) := by decide +kernel
theorem dX10_comes_21 : decode cX10_comes 21 = .ok (.invokestatic 392, 3) := by decide +kernel
theorem dX10_comes_24 : decode cX10_comes 24 = .ok (.ldc2_w 343, 3) := by decide +kernel
theorem dX10_comes_27 : decode cX10_comes 27 = .ok (.aload_n 0, 1) := by decide +kernel
theorem dX10_comes_28 : decode cX10_comes 28 = .ok (.iload_n 2, 1) := by decide +kernel
theorem dX10_comes_29 : decode cX10_comes 29 = .ok (.invokevirtual 360, 3) := by decide +kernel
theorem dX10_comes_32 : decode cX10_comes 32 = .ok (.i2l, 1) := by decide +kernel
theorem dX10_comes_33 : decode cX10_comes 33 = .ok (.lmul, 1) := by decide +kernel
theorem dX10_comes_34 : decode cX10_comes 34 = .ok (.iload_n 3, 1) := by decide +kernel
theorem dX10_comes_35 : decode cX10_comes 35 = .ok (.i2l, 1) := by decide +kernel
theorem dX10_comes_36 : decode cX10_comes 36 = .ok (.lmul, 1) := by decide +kernel
theorem dX10_comes_37 : decode cX10_comes 37 = .ok (.lastore, 1) := by decide +kernel
theorem dX10_comes_38 : decode cX10_comes 38 = .ok (.aload_n 0, 1) := by decide +kernel
theorem dX10_comes_39 : decode cX10_comes 39 = .ok (.getfield 99, 3) := by decide +kernel
theorem dX10_comes_42 : decode cX10_comes 42 = .ok (.aload_n 0, 1) := by decide +kernel
theorem dX10_comes_43 : decode cX10_comes 43 = .ok (.invokevirtual 278, 3) := by decide +kernel
theorem dX10_comes_46 : decode cX10_comes 46 = .ok (.iconst 1, 1) := by decide +kernel
theorem dX10_comes_47 : decode cX10_comes 47 = .ok (.iadd, 1) := by decide +kernel
theorem dX10_comes_48 : decode cX10_comes 48 = .ok (.iconst 1, 1) := by decide +kernel
theorem dX10_comes_49 : decode cX10_comes 49 = .ok (.iload_n 3, 1) := by decide +kernel
theorem dX10_comes_50 : decode cX10_comes 50 = .ok (.invokestatic 392, 3) := by decide +kernel
theorem dX10_comes_53 : decode cX10_comes 53 = .ok (.ldc2_w 343, 3) := by decide +kernel
theorem dX10_comes_56 : decode cX10_comes 56 = .ok (.aload_n 0, 1) := by decide +kernel
theorem dX10_comes_57 : decode cX10_comes 57 = .ok (.iload_n 2, 1) := by decide +kernel
theorem dX10_comes_58 : decode cX10_comes 58 = .ok (.invokevirtual 360, 3) := by decide +kernel
theorem dX10_comes_61 : decode cX10_comes 61 = .ok (.i2l, 1) := by decide +kernel
theorem dX10_comes_62 : decode cX10_comes 62 = .ok (.lmul, 1) := by decide +kernel
theorem dX10_comes_63 : decode cX10_comes 63 = .ok (.iload_n 3, 1) := by decide +kernel
theorem dX10_comes_64 : decode cX10_comes 64 = .ok (.i2l, 1) := by decide +kernel
theorem dX10_comes_65 : decode cX10_comes 65 = .ok (.lmul, 1) := by decide +kernel
theorem dX10_comes_66 : decode cX10_comes 66 = .ok (.lastore, 1) := by decide +kernel
theorem dX10_comes_67 : decode cX10_comes 67 = .ok (.iinc 3 1, 3) := by decide +kernel
theorem dX10_comes_70 : decode cX10_comes 70 = .ok (.goto (-68), 3) := by decide +kernel
theorem dX10_lateOf_0 : decode cX10_lateOf 0 = .ok (.aload_n 0, 1) := by decide +kernel
theorem dX10_lateOf_1 : decode cX10_lateOf 1 = .ok (.iload_n 1, 1) := by decide +kernel
theorem dX10_lateOf_2 : decode cX10_lateOf 2 = .ok (.iload_n 2, 1) := by decide +kernel
theorem dX10_lateOf_3 : decode cX10_lateOf 3 = .ok (.invokevirtual 407, 3) := by decide +kernel
theorem dX10_lateOf_6 : decode cX10_lateOf 6 = .ok (.aload_n 0, 1) := by decide +kernel
theorem dX10_lateOf_7 : decode cX10_lateOf 7 = .ok (.getfield 99, 3) := by decide +kernel
theorem dX10_lateOf_10 : decode cX10_lateOf 10 = .ok (.iconst 1, 1) := by decide +kernel
theorem dX10_lateOf_11 : decode cX10_lateOf 11 = .ok (.iconst 0, 1) := by decide +kernel
theorem dX10_lateOf_12 : decode cX10_lateOf 12 = .ok (.iconst 0, 1) := by decide +kernel
theorem dX10_lateOf_13 : decode cX10_lateOf 13 = .ok (.invokestatic 392, 3) := by decide +kernel
theorem dX10_lateOf_16 : decode cX10_lateOf 16 = .ok (.laload, 1) := by decide +kernel
theorem dX10_lateOf_17 : decode cX10_lateOf 17 = .ok (.lreturn, 1) := by decide +kernel
theorem dX10_late_0 : decode cX10_late 0 = .ok (.aload_n 0, 1) := by decide +kernel
theorem dX10_late_1 : decode cX10_late 1 = .ok (.iconst 0, 1) := by decide +kernel
theorem dX10_late_2 : decode cX10_late 2 = .ok (.putfield 111, 3) := by decide +kernel
theorem dX10_late_5 : decode cX10_late 5 = .ok (.aload_n 0, 1) := by decide +kernel
theorem dX10_late_6 : decode cX10_late 6 = .ok (.iload_n 1, 1) := by decide +kernel
theorem dX10_late_7 : decode cX10_late 7 = .ok (.iload_n 2, 1) := by decide +kernel
theorem dX10_late_8 : decode cX10_late 8 = .ok (.iconst 0, 1) := by decide +kernel
theorem dX10_late_9 : decode cX10_late 9 = .ok (.invokevirtual 375, 3) := by decide +kernel
theorem dX10_late_12 : decode cX10_late 12 = .ok (.ifCond .eq 12, 3) := by decide +kernel
theorem dX10_late_15 : decode cX10_late 15 = .ok (.aload_n 0, 1) := by decide +kernel
theorem dX10_late_16 : decode cX10_late 16 = .ok (.iload_n 1, 1) := by decide +kernel
theorem dX10_late_17 : decode cX10_late 17 = .ok (.iload_n 2, 1) := by decide +kernel
theorem dX10_late_18 : decode cX10_late 18 = .ok (.invokevirtual 410, 3) := by decide +kernel
theorem dX10_late_21 : decode cX10_late 21 = .ok (.goto 6, 3) := by decide +kernel
theorem dX10_late_27 : decode cX10_late 27 = .ok (.lreturn, 1) := by decide +kernel
theorem dX10_late_24 : decode cX10_late 24 = .ok (.ldc2_w 300, 3) := by decide +kernel
theorem dX10_today_0 : decode cX10_today 0 = .ok (.aload_n 0, 1) := by decide +kernel
theorem dX10_today_1 : decode cX10_today 1 = .ok (.iconst 0, 1) := by decide +kernel
theorem dX10_today_2 : decode cX10_today 2 = .ok (.putfield 111, 3) := by decide +kernel
theorem dX10_today_5 : decode cX10_today 5 = .ok (.aload_n 0, 1) := by decide +kernel
theorem dX10_today_6 : decode cX10_today 6 = .ok (.iload_n 1, 1) := by decide +kernel
theorem dX10_today_7 : decode cX10_today 7 = .ok (.iload_n 2, 1) := by decide +kernel
theorem dX10_today_8 : decode cX10_today 8 = .ok (.iconst 0, 1) := by decide +kernel
theorem dX10_today_9 : decode cX10_today 9 = .ok (.invokevirtual 375, 3) := by decide +kernel
theorem dX10_today_12 : decode cX10_today 12 = .ok (.ifCond .eq 24, 3) := by decide +kernel
theorem dX10_today_15 : decode cX10_today 15 = .ok (.aload_n 0, 1) := by decide +kernel
theorem dX10_today_16 : decode cX10_today 16 = .ok (.iload_n 3, 1) := by decide +kernel
theorem dX10_today_17 : decode cX10_today 17 = .ok (.invokevirtual 305, 3) := by decide +kernel
theorem dX10_today_20 : decode cX10_today 20 = .ok (.ifCond .eq 16, 3) := by decide +kernel
theorem dX10_today_23 : decode cX10_today 23 = .ok (.iload 5, 2) := by decide +kernel
theorem dX10_today_25 : decode cX10_today 25 = .ok (.i2l, 1) := by decide +kernel
theorem dX10_today_26 : decode cX10_today 26 = .ok (.lconst 0, 1) := by decide +kernel
theorem dX10_today_27 : decode cX10_today 27 = .ok (.ldc2_w 413, 3) := by decide +kernel
theorem dX10_today_30 : decode cX10_today 30 = .ok (.invokestatic 116, 3) := by decide +kernel
theorem dX10_today_33 : decode cX10_today 33 = .ok (.ifCond .ne 6, 3) := by decide +kernel
theorem dX10_today_39 : decode cX10_today 39 = .ok (.aload_n 0, 1) := by decide +kernel
theorem dX10_today_40 : decode cX10_today 40 = .ok (.iload_n 1, 1) := by decide +kernel
theorem dX10_today_41 : decode cX10_today 41 = .ok (.iload_n 2, 1) := by decide +kernel
theorem dX10_today_42 : decode cX10_today 42 = .ok (.invokevirtual 407, 3) := by decide +kernel
theorem dX10_today_45 : decode cX10_today 45 = .ok (.aload_n 0, 1) := by decide +kernel
theorem dX10_today_46 : decode cX10_today 46 = .ok (.iload_n 1, 1) := by decide +kernel
theorem dX10_today_47 : decode cX10_today 47 = .ok (.iload_n 2, 1) := by decide +kernel
theorem dX10_today_48 : decode cX10_today 48 = .ok (.iload_n 3, 1) := by decide +kernel
theorem dX10_today_49 : decode cX10_today 49 = .ok (.iload 4, 2) := by decide +kernel
theorem dX10_today_51 : decode cX10_today 51 = .ok (.iload 5, 2) := by decide +kernel
theorem dX10_today_53 : decode cX10_today 53 = .ok (.invokevirtual 403, 3) := by decide +kernel
theorem dX10_today_56 : decode cX10_today 56 = .ok (.ireturn, 1) := by decide +kernel
theorem dX10_today_36 : decode cX10_today 36 = .ok (.bipush (-2), 2) := by decide +kernel
theorem dX10_today_38 : decode cX10_today 38 = .ok (.ireturn, 1) := by decide +kernel
theorem dX10_last_0 : decode cX10_last 0 = .ok (.aload_n 0, 1) := by decide +kernel
theorem dX10_last_1 : decode cX10_last 1 = .ok (.iconst 0, 1) := by decide +kernel
theorem dX10_last_2 : decode cX10_last 2 = .ok (.putfield 111, 3) := by decide +kernel
theorem dX10_last_5 : decode cX10_last 5 = .ok (.aload_n 0, 1) := by decide +kernel
theorem dX10_last_6 : decode cX10_last 6 = .ok (.iload_n 1, 1) := by decide +kernel
theorem dX10_last_7 : decode cX10_last 7 = .ok (.iload_n 2, 1) := by decide +kernel
theorem dX10_last_8 : decode cX10_last 8 = .ok (.iconst 0, 1) := by decide +kernel
theorem dX10_last_9 : decode cX10_last 9 = .ok (.invokevirtual 375, 3) := by decide +kernel
theorem dX10_last_12 : decode cX10_last 12 = .ok (.ifCond .ne 6, 3) := by decide +kernel
theorem dX10_last_18 : decode cX10_last 18 = .ok (.aload_n 0, 1) := by decide +kernel
theorem dX10_last_19 : decode cX10_last 19 = .ok (.iload_n 1, 1) := by decide +kernel
theorem dX10_last_20 : decode cX10_last 20 = .ok (.iload_n 2, 1) := by decide +kernel
theorem dX10_last_21 : decode cX10_last 21 = .ok (.invokevirtual 407, 3) := by decide +kernel
theorem dX10_last_24 : decode cX10_last 24 = .ok (.iconst (-1), 1) := by decide +kernel
theorem dX10_last_25 : decode cX10_last 25 = .ok (.istore_n 3, 1) := by decide +kernel
theorem dX10_last_26 : decode cX10_last 26 = .ok (.iconst 0, 1) := by decide +kernel
theorem dX10_last_27 : decode cX10_last 27 = .ok (.istore 4, 2) := by decide +kernel
theorem dX10_last_29 : decode cX10_last 29 = .ok (.iconst 1, 1) := by decide +kernel
theorem dX10_last_30 : decode cX10_last 30 = .ok (.istore 5, 2) := by decide +kernel
theorem dX10_last_32 : decode cX10_last 32 = .ok (.iload 5, 2) := by decide +kernel
theorem dX10_last_34 : decode cX10_last 34 = .ok (.aload_n 0, 1) := by decide +kernel
theorem dX10_last_35 : decode cX10_last 35 = .ok (.invokevirtual 278, 3) := by decide +kernel
theorem dX10_last_38 : decode cX10_last 38 = .ok (.if_icmp .gt 48, 3) := by decide +kernel
theorem dX10_last_86 : decode cX10_last 86 = .ok (.iload_n 3, 1) := by decide +kernel
theorem dX10_last_87 : decode cX10_last 87 = .ok (.ireturn, 1) := by decide +kernel
theorem dX10_last_41 : decode cX10_last 41 = .ok (.aload_n 0, 1) := by decide +kernel
theorem dX10_last_42 : decode cX10_last 42 = .ok (.iload_n 1, 1) := by decide +kernel
theorem dX10_last_43 : decode cX10_last 43 = .ok (.iload_n 2, 1) := by decide +kernel
theorem dX10_last_44 : decode cX10_last 44 = .ok (.iload 5, 2) := by decide +kernel
theorem dX10_last_46 : decode cX10_last 46 = .ok (.iconst 0, 1) := by decide +kernel
theorem dX10_last_47 : decode cX10_last 47 = .ok (.iload 4, 2) := by decide +kernel
theorem dX10_last_49 : decode cX10_last 49 = .ok (.invokevirtual 403, 3) := by decide +kernel
theorem dX10_last_52 : decode cX10_last 52 = .ok (.istore 6, 2) := by decide +kernel
theorem dX10_last_54 : decode cX10_last 54 = .ok (.iload 4, 2) := by decide +kernel
theorem dX10_last_56 : decode cX10_last 56 = .ok (.iload 6, 2) := by decide +kernel
theorem dX10_last_58 : decode cX10_last 58 = .ok (.aload_n 0, 1) := by decide +kernel
theorem dX10_last_59 : decode cX10_last 59 = .ok (.getfield 55, 3) := by decide +kernel
theorem dX10_last_62 : decode cX10_last 62 = .ok (.iconst 1, 1) := by decide +kernel
theorem dX10_last_63 : decode cX10_last 63 = .ok (.iaload, 1) := by decide +kernel
theorem dX10_last_64 : decode cX10_last 64 = .ok (.imul, 1) := by decide +kernel
theorem dX10_last_65 : decode cX10_last 65 = .ok (.iadd, 1) := by decide +kernel
theorem dX10_last_66 : decode cX10_last 66 = .ok (.istore 4, 2) := by decide +kernel
theorem dX10_last_68 : decode cX10_last 68 = .ok (.iload 6, 2) := by decide +kernel
theorem dX10_last_70 : decode cX10_last 70 = .ok (.ifCond .le 8, 3) := by decide +kernel
theorem dX10_last_78 : decode cX10_last 78 = .ok (.iload_n 3, 1) := by decide +kernel
theorem dX10_last_79 : decode cX10_last 79 = .ok (.istore_n 3, 1) := by decide +kernel
theorem dX10_last_80 : decode cX10_last 80 = .ok (.iinc 5 1, 3) := by decide +kernel
theorem dX10_last_83 : decode cX10_last 83 = .ok (.goto (-51), 3) := by decide +kernel
theorem dX10_last_73 : decode cX10_last 73 = .ok (.iload 5, 2) := by decide +kernel
theorem dX10_last_75 : decode cX10_last 75 = .ok (.goto 4, 3) := by decide +kernel
theorem dX10_last_15 : decode cX10_last 15 = .ok (.bipush (-2), 2) := by decide +kernel
theorem dX10_last_17 : decode cX10_last 17 = .ok (.ireturn, 1) := by decide +kernel
theorem dX10_forks_0 : decode cX10_forks 0 = .ok (.iconst 0, 1) := by decide +kernel
theorem dX10_forks_1 : decode cX10_forks 1 = .ok (.istore 4, 2) := by decide +kernel
theorem dX10_forks_3 : decode cX10_forks 3 = .ok (.iload 4, 2) := by decide +kernel
theorem dX10_forks_5 : decode cX10_forks 5 = .ok (.aload_n 0, 1) := by decide +kernel
theorem dX10_forks_6 : decode cX10_forks 6 = .ok (.getfield 102, 3) := by decide +kernel
theorem dX10_forks_9 : decode cX10_forks 9 = .ok (.arraylength, 1) := by decide +kernel
theorem dX10_forks_10 : decode cX10_forks 10 = .ok (.if_icmp .ge 17, 3) := by decide +kernel
theorem dX10_forks_27 : decode cX10_forks 27 = .ok (.aload_n 0, 1) := by decide +kernel
theorem dX10_forks_28 : decode cX10_forks 28 = .ok (.iload_n 1, 1) := by decide +kernel
theorem dX10_forks_29 : decode cX10_forks 29 = .ok (.iload_n 2, 1) := by decide +kernel
theorem dX10_forks_30 : decode cX10_forks 30 = .ok (.invokevirtual 327, 3) := by decide +kernel
theorem dX10_forks_33 : decode cX10_forks 33 = .ok (.iconst 0, 1) := by decide +kernel
theorem dX10_forks_34 : decode cX10_forks 34 = .ok (.istore 4, 2) := by decide +kernel
theorem dX10_forks_36 : decode cX10_forks 36 = .ok (.iload 4, 2) := by decide +kernel
theorem dX10_forks_38 : decode cX10_forks 38 = .ok (.aload_n 0, 1) := by decide +kernel
theorem dX10_forks_39 : decode cX10_forks 39 = .ok (.invokevirtual 278, 3) := by decide +kernel
theorem dX10_forks_42 : decode cX10_forks 42 = .ok (.if_icmp .gt 60, 3) := by decide +kernel
theorem dX10_forks_102 : decode cX10_forks 102 = .ok (.return_, 1) := by decide +kernel
theorem dX10_forks_45 : decode cX10_forks 45 = .ok (.iconst 0, 1) := by decide +kernel
theorem dX10_forks_46 : decode cX10_forks 46 = .ok (.istore 5, 2) := by decide +kernel
theorem dX10_forks_48 : decode cX10_forks 48 = .ok (.iload 5, 2) := by decide +kernel
theorem dX10_forks_50 : decode cX10_forks 50 = .ok (.aload_n 0, 1) := by decide +kernel
theorem dX10_forks_51 : decode cX10_forks 51 = .ok (.invokevirtual 278, 3) := by decide +kernel
theorem dX10_forks_54 : decode cX10_forks 54 = .ok (.if_icmp .gt 42, 3) := by decide +kernel
theorem dX10_forks_96 : decode cX10_forks 96 = .ok (.iinc 4 1, 3) := by decide +kernel
theorem dX10_forks_99 : decode cX10_forks 99 = .ok (.goto (-63), 3) := by decide +kernel
theorem dX10_forks_57 : decode cX10_forks 57 = .ok (.aload_n 0, 1) := by decide +kernel
theorem dX10_forks_58 : decode cX10_forks 58 = .ok (.getfield 102, 3) := by decide +kernel
theorem dX10_forks_61 : decode cX10_forks 61 = .ok (.aload_n 0, 1) := by decide +kernel
theorem dX10_forks_62 : decode cX10_forks 62 = .ok (.iload_n 1, 1) := by decide +kernel
theorem dX10_forks_63 : decode cX10_forks 63 = .ok (.iload_n 3, 1) := by decide +kernel
theorem dX10_forks_64 : decode cX10_forks 64 = .ok (.iload 4, 2) := by decide +kernel
theorem dX10_forks_66 : decode cX10_forks 66 = .ok (.invokevirtual 353, 3) := by decide +kernel
theorem dX10_forks_69 : decode cX10_forks 69 = .ok (.aload_n 0, 1) := by decide +kernel
theorem dX10_forks_70 : decode cX10_forks 70 = .ok (.iload_n 2, 1) := by decide +kernel
theorem dX10_forks_71 : decode cX10_forks 71 = .ok (.iload_n 3, 1) := by decide +kernel
theorem dX10_forks_72 : decode cX10_forks 72 = .ok (.iload 5, 2) := by decide +kernel
theorem dX10_forks_74 : decode cX10_forks 74 = .ok (.invokevirtual 353, 3) := by decide +kernel
theorem dX10_forks_77 : decode cX10_forks 77 = .ok (.iadd, 1) := by decide +kernel
theorem dX10_forks_78 : decode cX10_forks 78 = .ok (.dup2, 1) := by decide +kernel
theorem dX10_forks_79 : decode cX10_forks 79 = .ok (.laload, 1) := by decide +kernel
theorem dX10_forks_80 : decode cX10_forks 80 = .ok (.aload_n 0, 1) := by decide +kernel
theorem dX10_forks_81 : decode cX10_forks 81 = .ok (.iload 4, 2) := by decide +kernel
theorem dX10_forks_83 : decode cX10_forks 83 = .ok (.iload 5, 2) := by decide +kernel
theorem dX10_forks_85 : decode cX10_forks 85 = .ok (.invokevirtual 330, 3) := by decide +kernel
theorem dX10_forks_88 : decode cX10_forks 88 = .ok (.ladd, 1) := by decide +kernel
theorem dX10_forks_89 : decode cX10_forks 89 = .ok (.lastore, 1) := by decide +kernel
theorem dX10_forks_90 : decode cX10_forks 90 = .ok (.iinc 5 1, 3) := by decide +kernel
theorem dX10_forks_93 : decode cX10_forks 93 = .ok (.goto (-45), 3) := by decide +kernel
theorem dX10_forks_13 : decode cX10_forks 13 = .ok (.aload_n 0, 1) := by decide +kernel
theorem dX10_forks_14 : decode cX10_forks 14 = .ok (.getfield 102, 3) := by decide +kernel
theorem dX10_forks_17 : decode cX10_forks 17 = .ok (.iload 4, 2) := by decide +kernel
theorem dX10_forks_19 : decode cX10_forks 19 = .ok (.lconst 0, 1) := by decide +kernel
theorem dX10_forks_20 : decode cX10_forks 20 = .ok (.lastore, 1) := by decide +kernel
theorem dX10_forks_21 : decode cX10_forks 21 = .ok (.iinc 4 1, 3) := by decide +kernel
theorem dX10_forks_24 : decode cX10_forks 24 = .ok (.goto (-21), 3) := by decide +kernel
theorem dX10_forkOf_0 : decode cX10_forkOf 0 = .ok (.ldc2_w 284, 3) := by decide +kernel
theorem dX10_forkOf_3 : decode cX10_forkOf 3 = .ok (.aload_n 0, 1) := by decide +kernel
theorem dX10_forkOf_4 : decode cX10_forkOf 4 = .ok (.iload_n 1, 1) := by decide +kernel
theorem dX10_forkOf_5 : decode cX10_forkOf 5 = .ok (.invokevirtual 363, 3) := by decide +kernel
theorem dX10_forkOf_8 : decode cX10_forkOf 8 = .ok (.i2l, 1) := by decide +kernel
theorem dX10_forkOf_9 : decode cX10_forkOf 9 = .ok (.lmul, 1) := by decide +kernel
theorem dX10_forkOf_10 : decode cX10_forkOf 10 = .ok (.iload_n 2, 1) := by decide +kernel
theorem dX10_forkOf_11 : decode cX10_forkOf 11 = .ok (.i2l, 1) := by decide +kernel
theorem dX10_forkOf_12 : decode cX10_forkOf 12 = .ok (.lmul, 1) := by decide +kernel
theorem dX10_forkOf_13 : decode cX10_forkOf 13 = .ok (.lstore_n 3, 1) := by decide +kernel
theorem dX10_forkOf_14 : decode cX10_forkOf 14 = .ok (.iconst 0, 1) := by decide +kernel
theorem dX10_forkOf_15 : decode cX10_forkOf 15 = .ok (.istore 5, 2) := by decide +kernel
theorem dX10_forkOf_17 : decode cX10_forkOf 17 = .ok (.iload 5, 2) := by decide +kernel
theorem dX10_forkOf_19 : decode cX10_forkOf 19 = .ok (.aload_n 0, 1) := by decide +kernel
theorem dX10_forkOf_20 : decode cX10_forkOf 20 = .ok (.getfield 102, 3) := by decide +kernel
theorem dX10_forkOf_23 : decode cX10_forkOf 23 = .ok (.arraylength, 1) := by decide +kernel
theorem dX10_forkOf_24 : decode cX10_forkOf 24 = .ok (.if_icmp .ge 65, 3) := by decide +kernel
theorem dX10_forkOf_89 : decode cX10_forkOf 89 = .ok (.lload_n 3, 1) := by decide +kernel
theorem dX10_forkOf_90 : decode cX10_forkOf 90 = .ok (.lreturn, 1) := by decide +kernel
theorem dX10_forkOf_27 : decode cX10_forkOf 27 = .ok (.aload_n 0, 1) := by decide +kernel
theorem dX10_forkOf_28 : decode cX10_forkOf 28 = .ok (.getfield 102, 3) := by decide +kernel
theorem dX10_forkOf_31 : decode cX10_forkOf 31 = .ok (.iload 5, 2) := by decide +kernel
theorem dX10_forkOf_33 : decode cX10_forkOf 33 = .ok (.laload, 1) := by decide +kernel
theorem dX10_forkOf_34 : decode cX10_forkOf 34 = .ok (.lconst 0, 1) := by decide +kernel
theorem dX10_forkOf_35 : decode cX10_forkOf 35 = .ok (.lcmp, 1) := by decide +kernel
theorem dX10_forkOf_36 : decode cX10_forkOf 36 = .ok (.ifCond .ne 6, 3) := by decide +kernel
theorem dX10_forkOf_42 : decode cX10_forkOf 42 = .ok (.lload_n 3, 1) := by decide +kernel
theorem dX10_forkOf_43 : decode cX10_forkOf 43 = .ok (.aload_n 0, 1) := by decide +kernel
theorem dX10_forkOf_44 : decode cX10_forkOf 44 = .ok (.getfield 102, 3) := by decide +kernel
theorem dX10_forkOf_47 : decode cX10_forkOf 47 = .ok (.iload 5, 2) := by decide +kernel
theorem dX10_forkOf_49 : decode cX10_forkOf 49 = .ok (.laload, 1) := by decide +kernel
theorem dX10_forkOf_50 : decode cX10_forkOf 50 = .ok (.aload_n 0, 1) := by decide +kernel
theorem dX10_forkOf_51 : decode cX10_forkOf 51 = .ok (.iload_n 1, 1) := by decide +kernel
theorem dX10_forkOf_52 : decode cX10_forkOf 52 = .ok (.iload 5, 2) := by decide +kernel
theorem dX10_forkOf_54 : decode cX10_forkOf 54 = .ok (.iload_n 2, 1) := by decide +kernel
theorem dX10_forkOf_55 : decode cX10_forkOf 55 = .ok (.invokevirtual 366, 3) := by decide +kernel
theorem dX10_forkOf_58 : decode cX10_forkOf 58 = .ok (.aload_n 0, 1) := by decide +kernel
theorem dX10_forkOf_59 : decode cX10_forkOf 59 = .ok (.getfield 55, 3) := by decide +kernel
theorem dX10_forkOf_62 : decode cX10_forkOf 62 = .ok (.iconst 5, 1) := by decide +kernel
theorem dX10_forkOf_63 : decode cX10_forkOf 63 = .ok (.iaload, 1) := by decide +kernel
theorem dX10_forkOf_64 : decode cX10_forkOf 64 = .ok (.i2l, 1) := by decide +kernel
theorem dX10_forkOf_65 : decode cX10_forkOf 65 = .ok (.iload 5, 2) := by decide +kernel
theorem dX10_forkOf_67 : decode cX10_forkOf 67 = .ok (.iload_n 2, 1) := by decide +kernel
theorem dX10_forkOf_68 : decode cX10_forkOf 68 = .ok (.if_icmp .ge 8, 3) := by decide +kernel
theorem dX10_forkOf_76 : decode cX10_forkOf 76 = .ok (.iload_n 2, 1) := by decide +kernel
theorem dX10_forkOf_77 : decode cX10_forkOf 77 = .ok (.i2l, 1) := by decide +kernel
theorem dX10_forkOf_78 : decode cX10_forkOf 78 = .ok (.lmul, 1) := by decide +kernel
theorem dX10_forkOf_79 : decode cX10_forkOf 79 = .ok (.ladd, 1) := by decide +kernel
theorem dX10_forkOf_80 : decode cX10_forkOf 80 = .ok (.lmul, 1) := by decide +kernel
theorem dX10_forkOf_81 : decode cX10_forkOf 81 = .ok (.ladd, 1) := by decide +kernel
theorem dX10_forkOf_82 : decode cX10_forkOf 82 = .ok (.lstore_n 3, 1) := by decide +kernel
theorem dX10_forkOf_83 : decode cX10_forkOf 83 = .ok (.iinc 5 1, 3) := by decide +kernel
theorem dX10_forkOf_86 : decode cX10_forkOf 86 = .ok (.goto (-69), 3) := by decide +kernel
theorem dX10_forkOf_71 : decode cX10_forkOf 71 = .ok (.iload 5, 2) := by decide +kernel
theorem dX10_forkOf_73 : decode cX10_forkOf 73 = .ok (.goto 4, 3) := by decide +kernel
theorem dX10_forkOf_39 : decode cX10_forkOf 39 = .ok (.goto 44, 3) := by decide +kernel
theorem dX10_middleOf_0 : decode cX10_middleOf 0 = .ok (.iconst 0, 1) := by decide +kernel
theorem dX10_middleOf_1 : decode cX10_middleOf 1 = .ok (.istore_n 2, 1) := by decide +kernel
theorem dX10_middleOf_2 : decode cX10_middleOf 2 = .ok (.aload_n 0, 1) := by decide +kernel
theorem dX10_middleOf_3 : decode cX10_middleOf 3 = .ok (.iload_n 1, 1) := by decide +kernel
theorem dX10_middleOf_4 : decode cX10_middleOf 4 = .ok (.iconst 0, 1) := by decide +kernel
theorem dX10_middleOf_5 : decode cX10_middleOf 5 = .ok (.invokevirtual 415, 3) := by decide +kernel
theorem dX10_middleOf_8 : decode cX10_middleOf 8 = .ok (.lstore_n 3, 1) := by decide +kernel
theorem dX10_middleOf_9 : decode cX10_middleOf 9 = .ok (.iconst 1, 1) := by decide +kernel
theorem dX10_middleOf_10 : decode cX10_middleOf 10 = .ok (.istore 5, 2) := by decide +kernel
theorem dX10_middleOf_12 : decode cX10_middleOf 12 = .ok (.iload 5, 2) := by decide +kernel
theorem dX10_middleOf_14 : decode cX10_middleOf 14 = .ok (.sipush 999, 3) := by decide +kernel
theorem dX10_middleOf_17 : decode cX10_middleOf 17 = .ok (.if_icmp .gt 34, 3) := by decide +kernel
theorem dX10_middleOf_51 : decode cX10_middleOf 51 = .ok (.iload_n 2, 1) := by decide +kernel
theorem dX10_middleOf_52 : decode cX10_middleOf 52 = .ok (.ireturn, 1) := by decide +kernel
theorem dX10_middleOf_20 : decode cX10_middleOf 20 = .ok (.aload_n 0, 1) := by decide +kernel
theorem dX10_middleOf_21 : decode cX10_middleOf 21 = .ok (.iload_n 1, 1) := by decide +kernel
theorem dX10_middleOf_22 : decode cX10_middleOf 22 = .ok (.iload 5, 2) := by decide +kernel
theorem dX10_middleOf_24 : decode cX10_middleOf 24 = .ok (.invokevirtual 415, 3) := by decide +kernel
theorem dX10_middleOf_27 : decode cX10_middleOf 27 = .ok (.lstore 6, 2) := by decide +kernel
theorem dX10_middleOf_29 : decode cX10_middleOf 29 = .ok (.lload 6, 2) := by decide +kernel
theorem dX10_middleOf_31 : decode cX10_middleOf 31 = .ok (.lload_n 3, 1) := by decide +kernel
theorem dX10_middleOf_32 : decode cX10_middleOf 32 = .ok (.lcmp, 1) := by decide +kernel
theorem dX10_middleOf_33 : decode cX10_middleOf 33 = .ok (.ifCond .lt 6, 3) := by decide +kernel
theorem dX10_middleOf_39 : decode cX10_middleOf 39 = .ok (.iload 5, 2) := by decide +kernel
theorem dX10_middleOf_41 : decode cX10_middleOf 41 = .ok (.istore_n 2, 1) := by decide +kernel
theorem dX10_middleOf_42 : decode cX10_middleOf 42 = .ok (.lload 6, 2) := by decide +kernel
theorem dX10_middleOf_44 : decode cX10_middleOf 44 = .ok (.lstore_n 3, 1) := by decide +kernel
theorem dX10_middleOf_45 : decode cX10_middleOf 45 = .ok (.iinc 5 1, 3) := by decide +kernel
theorem dX10_middleOf_48 : decode cX10_middleOf 48 = .ok (.goto (-36), 3) := by decide +kernel
theorem dX10_middleOf_36 : decode cX10_middleOf 36 = .ok (.goto 9, 3) := by decide +kernel
theorem dX10_fork_0 : decode cX10_fork 0 = .ok (.aload_n 0, 1) := by decide +kernel
theorem dX10_fork_1 : decode cX10_fork 1 = .ok (.iconst 0, 1) := by decide +kernel
theorem dX10_fork_2 : decode cX10_fork 2 = .ok (.putfield 111, 3) := by decide +kernel
theorem dX10_fork_5 : decode cX10_fork 5 = .ok (.aload_n 0, 1) := by decide +kernel
theorem dX10_fork_6 : decode cX10_fork 6 = .ok (.iload_n 1, 1) := by decide +kernel
theorem dX10_fork_7 : decode cX10_fork 7 = .ok (.iload_n 2, 1) := by decide +kernel
theorem dX10_fork_8 : decode cX10_fork 8 = .ok (.invokevirtual 323, 3) := by decide +kernel
theorem dX10_fork_11 : decode cX10_fork 11 = .ok (.ifCond .eq 20, 3) := by decide +kernel
theorem dX10_fork_14 : decode cX10_fork 14 = .ok (.aload_n 0, 1) := by decide +kernel
theorem dX10_fork_15 : decode cX10_fork 15 = .ok (.iload_n 3, 1) := by decide +kernel
theorem dX10_fork_16 : decode cX10_fork 16 = .ok (.invokevirtual 350, 3) := by decide +kernel
theorem dX10_fork_19 : decode cX10_fork 19 = .ok (.ifCond .eq 12, 3) := by decide +kernel
theorem dX10_fork_22 : decode cX10_fork 22 = .ok (.aload_n 0, 1) := by decide +kernel
theorem dX10_fork_23 : decode cX10_fork 23 = .ok (.iload 4, 2) := by decide +kernel
theorem dX10_fork_25 : decode cX10_fork 25 = .ok (.invokevirtual 372, 3) := by decide +kernel
theorem dX10_fork_28 : decode cX10_fork 28 = .ok (.ifCond .ne 7, 3) := by decide +kernel
theorem dX10_fork_35 : decode cX10_fork 35 = .ok (.aload_n 0, 1) := by decide +kernel
theorem dX10_fork_36 : decode cX10_fork 36 = .ok (.iload_n 1, 1) := by decide +kernel
theorem dX10_fork_37 : decode cX10_fork 37 = .ok (.iload_n 2, 1) := by decide +kernel
theorem dX10_fork_38 : decode cX10_fork 38 = .ok (.iload_n 3, 1) := by decide +kernel
theorem dX10_fork_39 : decode cX10_fork 39 = .ok (.invokevirtual 418, 3) := by decide +kernel
theorem dX10_fork_42 : decode cX10_fork 42 = .ok (.aload_n 0, 1) := by decide +kernel
theorem dX10_fork_43 : decode cX10_fork 43 = .ok (.iload_n 3, 1) := by decide +kernel
theorem dX10_fork_44 : decode cX10_fork 44 = .ok (.iload 4, 2) := by decide +kernel
theorem dX10_fork_46 : decode cX10_fork 46 = .ok (.invokevirtual 415, 3) := by decide +kernel
theorem dX10_fork_49 : decode cX10_fork 49 = .ok (.ldc2_w 345, 3) := by decide +kernel
theorem dX10_fork_52 : decode cX10_fork 52 = .ok (.ldiv, 1) := by decide +kernel
theorem dX10_fork_53 : decode cX10_fork 53 = .ok (.lreturn, 1) := by decide +kernel
theorem dX10_fork_31 : decode cX10_fork 31 = .ok (.ldc2_w 300, 3) := by decide +kernel
theorem dX10_fork_34 : decode cX10_fork 34 = .ok (.lreturn, 1) := by decide +kernel
theorem dX10_middle_0 : decode cX10_middle 0 = .ok (.aload_n 0, 1) := by decide +kernel
theorem dX10_middle_1 : decode cX10_middle 1 = .ok (.iconst 0, 1) := by decide +kernel
theorem dX10_middle_2 : decode cX10_middle 2 = .ok (.putfield 111, 3) := by decide +kernel
theorem dX10_middle_5 : decode cX10_middle 5 = .ok (.aload_n 0, 1) := by decide +kernel
theorem dX10_middle_6 : decode cX10_middle 6 = .ok (.iload_n 1, 1) := by decide +kernel
theorem dX10_middle_7 : decode cX10_middle 7 = .ok (.iload_n 2, 1) := by decide +kernel
theorem dX10_middle_8 : decode cX10_middle 8 = .ok (.invokevirtual 323, 3) := by decide +kernel
theorem dX10_middle_11 : decode cX10_middle 11 = .ok (.ifCond .eq 11, 3) := by decide +kernel
theorem dX10_middle_14 : decode cX10_middle 14 = .ok (.aload_n 0, 1) := by decide +kernel
theorem dX10_middle_15 : decode cX10_middle 15 = .ok (.iload_n 3, 1) := by decide +kernel
theorem dX10_middle_16 : decode cX10_middle 16 = .ok (.invokevirtual 350, 3) := by decide +kernel
theorem dX10_middle_19 : decode cX10_middle 19 = .ok (.ifCond .ne 6, 3) := by decide +kernel
theorem dX10_middle_25 : decode cX10_middle 25 = .ok (.aload_n 0, 1) := by decide +kernel
theorem dX10_middle_26 : decode cX10_middle 26 = .ok (.iload_n 1, 1) := by decide +kernel
theorem dX10_middle_27 : decode cX10_middle 27 = .ok (.iload_n 2, 1) := by decide +kernel
theorem dX10_middle_28 : decode cX10_middle 28 = .ok (.iload_n 3, 1) := by decide +kernel
theorem dX10_middle_29 : decode cX10_middle 29 = .ok (.invokevirtual 418, 3) := by decide +kernel
theorem dX10_middle_32 : decode cX10_middle 32 = .ok (.aload_n 0, 1) := by decide +kernel
theorem dX10_middle_33 : decode cX10_middle 33 = .ok (.iload_n 3, 1) := by decide +kernel
theorem dX10_middle_34 : decode cX10_middle 34 = .ok (.invokevirtual 422, 3) := by decide +kernel
theorem dX10_middle_37 : decode cX10_middle 37 = .ok (.ireturn, 1) := by decide +kernel
theorem dX10_middle_22 : decode cX10_middle 22 = .ok (.bipush (-2), 2) := by decide +kernel
theorem dX10_middle_24 : decode cX10_middle 24 = .ok (.ireturn, 1) := by decide +kernel
theorem dX10_shares_0 : decode cX10_shares 0 = .ok (.aload_n 0, 1) := by decide +kernel
theorem dX10_shares_1 : decode cX10_shares 1 = .ok (.iconst 0, 1) := by decide +kernel
theorem dX10_shares_2 : decode cX10_shares 2 = .ok (.putfield 111, 3) := by decide +kernel
theorem dX10_shares_5 : decode cX10_shares 5 = .ok (.aload_n 0, 1) := by decide +kernel
theorem dX10_shares_6 : decode cX10_shares 6 = .ok (.iload_n 1, 1) := by decide +kernel
theorem dX10_shares_7 : decode cX10_shares 7 = .ok (.iload_n 2, 1) := by decide +kernel
theorem dX10_shares_8 : decode cX10_shares 8 = .ok (.invokevirtual 323, 3) := by decide +kernel
theorem dX10_shares_11 : decode cX10_shares 11 = .ok (.ifCond .eq 11, 3) := by decide +kernel
theorem dX10_shares_14 : decode cX10_shares 14 = .ok (.aload_n 0, 1) := by decide +kernel
theorem dX10_shares_15 : decode cX10_shares 15 = .ok (.iload_n 3, 1) := by decide +kernel
theorem dX10_shares_16 : decode cX10_shares 16 = .ok (.invokevirtual 350, 3) := by decide +kernel
theorem dX10_shares_19 : decode cX10_shares 19 = .ok (.ifCond .ne 7, 3) := by decide +kernel
theorem dX10_shares_26 : decode cX10_shares 26 = .ok (.aload_n 0, 1) := by decide +kernel
theorem dX10_shares_27 : decode cX10_shares 27 = .ok (.iload_n 1, 1) := by decide +kernel
theorem dX10_shares_28 : decode cX10_shares 28 = .ok (.invokevirtual 302, 3) := by decide +kernel
theorem dX10_shares_31 : decode cX10_shares 31 = .ok (.aload_n 0, 1) := by decide +kernel
theorem dX10_shares_32 : decode cX10_shares 32 = .ok (.iload_n 1, 1) := by decide +kernel
theorem dX10_shares_33 : decode cX10_shares 33 = .ok (.iload_n 3, 1) := by decide +kernel
theorem dX10_shares_34 : decode cX10_shares 34 = .ok (.aload_n 0, 1) := by decide +kernel
theorem dX10_shares_35 : decode cX10_shares 35 = .ok (.iload_n 1, 1) := by decide +kernel
theorem dX10_shares_36 : decode cX10_shares 36 = .ok (.iload_n 3, 1) := by decide +kernel
theorem dX10_shares_37 : decode cX10_shares 37 = .ok (.invokevirtual 383, 3) := by decide +kernel
theorem dX10_shares_40 : decode cX10_shares 40 = .ok (.invokevirtual 378, 3) := by decide +kernel
theorem dX10_shares_43 : decode cX10_shares 43 = .ok (.lstore 4, 2) := by decide +kernel
theorem dX10_shares_45 : decode cX10_shares 45 = .ok (.aload_n 0, 1) := by decide +kernel
theorem dX10_shares_46 : decode cX10_shares 46 = .ok (.iload_n 2, 1) := by decide +kernel
theorem dX10_shares_47 : decode cX10_shares 47 = .ok (.invokevirtual 302, 3) := by decide +kernel
theorem dX10_shares_50 : decode cX10_shares 50 = .ok (.lload 4, 2) := by decide +kernel
theorem dX10_shares_52 : decode cX10_shares 52 = .ok (.aload_n 0, 1) := by decide +kernel
theorem dX10_shares_53 : decode cX10_shares 53 = .ok (.iload_n 2, 1) := by decide +kernel
theorem dX10_shares_54 : decode cX10_shares 54 = .ok (.iload_n 3, 1) := by decide +kernel
theorem dX10_shares_55 : decode cX10_shares 55 = .ok (.aload_n 0, 1) := by decide +kernel
theorem dX10_shares_56 : decode cX10_shares 56 = .ok (.iload_n 2, 1) := by decide +kernel
theorem dX10_shares_57 : decode cX10_shares 57 = .ok (.iload_n 3, 1) := by decide +kernel
theorem dX10_shares_58 : decode cX10_shares 58 = .ok (.invokevirtual 383, 3) := by decide +kernel
theorem dX10_shares_61 : decode cX10_shares 61 = .ok (.invokevirtual 378, 3) := by decide +kernel
theorem dX10_shares_64 : decode cX10_shares 64 = .ok (.ladd, 1) := by decide +kernel
theorem dX10_shares_65 : decode cX10_shares 65 = .ok (.lstore 4, 2) := by decide +kernel
theorem dX10_shares_67 : decode cX10_shares 67 = .ok (.aload_n 0, 1) := by decide +kernel
theorem dX10_shares_68 : decode cX10_shares 68 = .ok (.iload_n 1, 1) := by decide +kernel
theorem dX10_shares_69 : decode cX10_shares 69 = .ok (.iload_n 2, 1) := by decide +kernel
theorem dX10_shares_70 : decode cX10_shares 70 = .ok (.iload_n 3, 1) := by decide +kernel
theorem dX10_shares_71 : decode cX10_shares 71 = .ok (.invokevirtual 418, 3) := by decide +kernel
theorem dX10_shares_74 : decode cX10_shares 74 = .ok (.lload 4, 2) := by decide +kernel
theorem dX10_shares_76 : decode cX10_shares 76 = .ok (.aload_n 0, 1) := by decide +kernel
theorem dX10_shares_77 : decode cX10_shares 77 = .ok (.iload_n 3, 1) := by decide +kernel
theorem dX10_shares_78 : decode cX10_shares 78 = .ok (.aload_n 0, 1) := by decide +kernel
theorem dX10_shares_79 : decode cX10_shares 79 = .ok (.iload_n 3, 1) := by decide +kernel
theorem dX10_shares_80 : decode cX10_shares 80 = .ok (.invokevirtual 422, 3) := by decide +kernel
theorem dX10_shares_83 : decode cX10_shares 83 = .ok (.invokevirtual 415, 3) := by decide +kernel
theorem dX10_shares_86 : decode cX10_shares 86 = .ok (.lsub, 1) := by decide +kernel
theorem dX10_shares_87 : decode cX10_shares 87 = .ok (.ldc2_w 345, 3) := by decide +kernel
theorem dX10_shares_90 : decode cX10_shares 90 = .ok (.ldiv, 1) := by decide +kernel
theorem dX10_shares_91 : decode cX10_shares 91 = .ok (.lreturn, 1) := by decide +kernel
theorem dX10_shares_22 : decode cX10_shares 22 = .ok (.ldc2_w 381, 3) := by decide +kernel
theorem dX10_shares_25 : decode cX10_shares 25 = .ok (.lreturn, 1) := by decide +kernel
theorem dX10_lesser_0 : decode cX10_lesser 0 = .ok (.lload_n 0, 1) := by decide +kernel
theorem dX10_lesser_1 : decode cX10_lesser 1 = .ok (.lload_n 2, 1) := by decide +kernel
theorem dX10_lesser_2 : decode cX10_lesser 2 = .ok (.lcmp, 1) := by decide +kernel
theorem dX10_lesser_3 : decode cX10_lesser 3 = .ok (.ifCond .ge 7, 3) := by decide +kernel
theorem dX10_lesser_10 : decode cX10_lesser 10 = .ok (.lload_n 2, 1) := by decide +kernel
theorem dX10_lesser_11 : decode cX10_lesser 11 = .ok (.lreturn, 1) := by decide +kernel
theorem dX10_lesser_6 : decode cX10_lesser 6 = .ok (.lload_n 0, 1) := by decide +kernel
theorem dX10_lesser_7 : decode cX10_lesser 7 = .ok (.goto 4, 3) := by decide +kernel
theorem dX10_byPlane_0 : decode cX10_byPlane 0 = .ok (.iload_n 2, 1) := by decide +kernel
theorem dX10_byPlane_1 : decode cX10_byPlane 1 = .ok (.iload_n 3, 1) := by decide +kernel
theorem dX10_byPlane_2 : decode cX10_byPlane 2 = .ok (.if_icmp .le 12, 3) := by decide +kernel
theorem dX10_byPlane_14 : decode cX10_byPlane 14 = .ok (.aload_n 0, 1) := by decide +kernel
theorem dX10_byPlane_15 : decode cX10_byPlane 15 = .ok (.iload_n 1, 1) := by decide +kernel
theorem dX10_byPlane_16 : decode cX10_byPlane 16 = .ok (.iload_n 2, 1) := by decide +kernel
theorem dX10_byPlane_17 : decode cX10_byPlane 17 = .ok (.iload_n 3, 1) := by decide +kernel
theorem dX10_byPlane_18 : decode cX10_byPlane 18 = .ok (.invokevirtual 366, 3) := by decide +kernel
theorem dX10_byPlane_21 : decode cX10_byPlane 21 = .ok (.lreturn, 1) := by decide +kernel
theorem dX10_byPlane_5 : decode cX10_byPlane 5 = .ok (.aload_n 0, 1) := by decide +kernel
theorem dX10_byPlane_6 : decode cX10_byPlane 6 = .ok (.getfield 55, 3) := by decide +kernel
theorem dX10_byPlane_9 : decode cX10_byPlane 9 = .ok (.iconst 3, 1) := by decide +kernel
theorem dX10_byPlane_10 : decode cX10_byPlane 10 = .ok (.iaload, 1) := by decide +kernel
theorem dX10_byPlane_11 : decode cX10_byPlane 11 = .ok (.ifCond .ne 11, 3) := by decide +kernel
theorem dX10_byPlane_22 : decode cX10_byPlane 22 = .ok (.iload_n 2, 1) := by decide +kernel
theorem dX10_byPlane_23 : decode cX10_byPlane 23 = .ok (.iload_n 3, 1) := by decide +kernel
theorem dX10_byPlane_24 : decode cX10_byPlane 24 = .ok (.isub, 1) := by decide +kernel
theorem dX10_byPlane_25 : decode cX10_byPlane 25 = .ok (.istore 4, 2) := by decide +kernel
theorem dX10_byPlane_27 : decode cX10_byPlane 27 = .ok (.iload 4, 2) := by decide +kernel
theorem dX10_byPlane_29 : decode cX10_byPlane 29 = .ok (.aload_n 0, 1) := by decide +kernel
theorem dX10_byPlane_30 : decode cX10_byPlane 30 = .ok (.getfield 55, 3) := by decide +kernel
theorem dX10_byPlane_33 : decode cX10_byPlane 33 = .ok (.iconst 3, 1) := by decide +kernel
theorem dX10_byPlane_34 : decode cX10_byPlane 34 = .ok (.iaload, 1) := by decide +kernel
theorem dX10_byPlane_35 : decode cX10_byPlane 35 = .ok (.idiv, 1) := by decide +kernel
theorem dX10_byPlane_36 : decode cX10_byPlane 36 = .ok (.i2l, 1) := by decide +kernel
theorem dX10_byPlane_37 : decode cX10_byPlane 37 = .ok (.aload_n 0, 1) := by decide +kernel
theorem dX10_byPlane_38 : decode cX10_byPlane 38 = .ok (.iload_n 1, 1) := by decide +kernel
theorem dX10_byPlane_39 : decode cX10_byPlane 39 = .ok (.invokevirtual 357, 3) := by decide +kernel
theorem dX10_byPlane_42 : decode cX10_byPlane 42 = .ok (.i2l, 1) := by decide +kernel
theorem dX10_byPlane_43 : decode cX10_byPlane 43 = .ok (.aload_n 0, 1) := by decide +kernel
theorem dX10_byPlane_44 : decode cX10_byPlane 44 = .ok (.getfield 55, 3) := by decide +kernel
theorem dX10_byPlane_47 : decode cX10_byPlane 47 = .ok (.iconst 3, 1) := by decide +kernel
theorem dX10_byPlane_48 : decode cX10_byPlane 48 = .ok (.iaload, 1) := by decide +kernel
theorem dX10_byPlane_49 : decode cX10_byPlane 49 = .ok (.i2l, 1) := by decide +kernel
theorem dX10_byPlane_50 : decode cX10_byPlane 50 = .ok (.lmul, 1) := by decide +kernel
theorem dX10_byPlane_51 : decode cX10_byPlane 51 = .ok (.aload_n 0, 1) := by decide +kernel
theorem dX10_byPlane_52 : decode cX10_byPlane 52 = .ok (.getfield 55, 3) := by decide +kernel
theorem dX10_byPlane_55 : decode cX10_byPlane 55 = .ok (.iconst 4, 1) := by decide +kernel
theorem dX10_byPlane_56 : decode cX10_byPlane 56 = .ok (.iaload, 1) := by decide +kernel
theorem dX10_byPlane_57 : decode cX10_byPlane 57 = .ok (.i2l, 1) := by decide +kernel
theorem dX10_byPlane_58 : decode cX10_byPlane 58 = .ok (.invokestatic 425, 3) := by decide +kernel
theorem dX10_byPlane_61 : decode cX10_byPlane 61 = .ok (.lmul, 1) := by decide +kernel
theorem dX10_byPlane_62 : decode cX10_byPlane 62 = .ok (.aload_n 0, 1) := by decide +kernel
theorem dX10_byPlane_63 : decode cX10_byPlane 63 = .ok (.iload_n 1, 1) := by decide +kernel
theorem dX10_byPlane_64 : decode cX10_byPlane 64 = .ok (.invokevirtual 357, 3) := by decide +kernel
theorem dX10_byPlane_67 : decode cX10_byPlane 67 = .ok (.i2l, 1) := by decide +kernel
theorem dX10_byPlane_68 : decode cX10_byPlane 68 = .ok (.iload 4, 2) := by decide +kernel
theorem dX10_byPlane_70 : decode cX10_byPlane 70 = .ok (.aload_n 0, 1) := by decide +kernel
theorem dX10_byPlane_71 : decode cX10_byPlane 71 = .ok (.getfield 55, 3) := by decide +kernel
theorem dX10_byPlane_74 : decode cX10_byPlane 74 = .ok (.iconst 3, 1) := by decide +kernel
theorem dX10_byPlane_75 : decode cX10_byPlane 75 = .ok (.iaload, 1) := by decide +kernel
theorem dX10_byPlane_76 : decode cX10_byPlane 76 = .ok (.irem, 1) := by decide +kernel
theorem dX10_byPlane_77 : decode cX10_byPlane 77 = .ok (.i2l, 1) := by decide +kernel
theorem dX10_byPlane_78 : decode cX10_byPlane 78 = .ok (.lmul, 1) := by decide +kernel
theorem dX10_byPlane_79 : decode cX10_byPlane 79 = .ok (.aload_n 0, 1) := by decide +kernel
theorem dX10_byPlane_80 : decode cX10_byPlane 80 = .ok (.getfield 55, 3) := by decide +kernel
theorem dX10_byPlane_83 : decode cX10_byPlane 83 = .ok (.iconst 4, 1) := by decide +kernel
theorem dX10_byPlane_84 : decode cX10_byPlane 84 = .ok (.iaload, 1) := by decide +kernel
theorem dX10_byPlane_85 : decode cX10_byPlane 85 = .ok (.i2l, 1) := by decide +kernel
theorem dX10_byPlane_86 : decode cX10_byPlane 86 = .ok (.invokestatic 425, 3) := by decide +kernel
theorem dX10_byPlane_89 : decode cX10_byPlane 89 = .ok (.ladd, 1) := by decide +kernel
theorem dX10_byPlane_90 : decode cX10_byPlane 90 = .ok (.lreturn, 1) := by decide +kernel
theorem dX10_flownOf_0 : decode cX10_flownOf 0 = .ok (.ldc2_w 284, 3) := by decide +kernel
theorem dX10_flownOf_3 : decode cX10_flownOf 3 = .ok (.aload_n 0, 1) := by decide +kernel
theorem dX10_flownOf_4 : decode cX10_flownOf 4 = .ok (.iload_n 2, 1) := by decide +kernel
theorem dX10_flownOf_5 : decode cX10_flownOf 5 = .ok (.invokevirtual 363, 3) := by decide +kernel
theorem dX10_flownOf_8 : decode cX10_flownOf 8 = .ok (.i2l, 1) := by decide +kernel
theorem dX10_flownOf_9 : decode cX10_flownOf 9 = .ok (.lmul, 1) := by decide +kernel
theorem dX10_flownOf_10 : decode cX10_flownOf 10 = .ok (.iload_n 3, 1) := by decide +kernel
theorem dX10_flownOf_11 : decode cX10_flownOf 11 = .ok (.i2l, 1) := by decide +kernel
theorem dX10_flownOf_12 : decode cX10_flownOf 12 = .ok (.lmul, 1) := by decide +kernel
theorem dX10_flownOf_13 : decode cX10_flownOf 13 = .ok (.lstore 4, 2) := by decide +kernel
theorem dX10_flownOf_15 : decode cX10_flownOf 15 = .ok (.iconst 0, 1) := by decide +kernel
theorem dX10_flownOf_16 : decode cX10_flownOf 16 = .ok (.istore 6, 2) := by decide +kernel
theorem dX10_flownOf_18 : decode cX10_flownOf 18 = .ok (.iload 6, 2) := by decide +kernel
theorem dX10_flownOf_20 : decode cX10_flownOf 20 = .ok (.aload_n 0, 1) := by decide +kernel
theorem dX10_flownOf_21 : decode cX10_flownOf 21 = .ok (.invokevirtual 278, 3) := by decide +kernel
theorem dX10_flownOf_24 : decode cX10_flownOf 24 = .ok (.if_icmp .gt 36, 3) := by decide +kernel
theorem dX10_flownOf_60 : decode cX10_flownOf 60 = .ok (.lload 4, 2) := by decide +kernel
theorem dX10_flownOf_62 : decode cX10_flownOf 62 = .ok (.lreturn, 1) := by decide +kernel
theorem dX10_flownOf_27 : decode cX10_flownOf 27 = .ok (.lload 4, 2) := by decide +kernel
theorem dX10_flownOf_29 : decode cX10_flownOf 29 = .ok (.aload_n 0, 1) := by decide +kernel
theorem dX10_flownOf_30 : decode cX10_flownOf 30 = .ok (.getfield 71, 3) := by decide +kernel
theorem dX10_flownOf_33 : decode cX10_flownOf 33 = .ok (.iload 6, 2) := by decide +kernel
theorem dX10_flownOf_35 : decode cX10_flownOf 35 = .ok (.laload, 1) := by decide +kernel
theorem dX10_flownOf_36 : decode cX10_flownOf 36 = .ok (.aload_n 0, 1) := by decide +kernel
theorem dX10_flownOf_37 : decode cX10_flownOf 37 = .ok (.iload_n 2, 1) := by decide +kernel
theorem dX10_flownOf_38 : decode cX10_flownOf 38 = .ok (.aload_n 0, 1) := by decide +kernel
theorem dX10_flownOf_39 : decode cX10_flownOf 39 = .ok (.iload_n 1, 1) := by decide +kernel
theorem dX10_flownOf_40 : decode cX10_flownOf 40 = .ok (.iload_n 2, 1) := by decide +kernel
theorem dX10_flownOf_41 : decode cX10_flownOf 41 = .ok (.iload 6, 2) := by decide +kernel
theorem dX10_flownOf_43 : decode cX10_flownOf 43 = .ok (.invokevirtual 353, 3) := by decide +kernel
theorem dX10_flownOf_46 : decode cX10_flownOf 46 = .ok (.iload_n 3, 1) := by decide +kernel
theorem dX10_flownOf_47 : decode cX10_flownOf 47 = .ok (.invokevirtual 429, 3) := by decide +kernel
theorem dX10_flownOf_50 : decode cX10_flownOf 50 = .ok (.lmul, 1) := by decide +kernel
theorem dX10_flownOf_51 : decode cX10_flownOf 51 = .ok (.ladd, 1) := by decide +kernel
theorem dX10_flownOf_52 : decode cX10_flownOf 52 = .ok (.lstore 4, 2) := by decide +kernel
theorem dX10_flownOf_54 : decode cX10_flownOf 54 = .ok (.iinc 6 1, 3) := by decide +kernel
theorem dX10_flownOf_57 : decode cX10_flownOf 57 = .ok (.goto (-39), 3) := by decide +kernel
theorem dX10_flown_0 : decode cX10_flown 0 = .ok (.aload_n 0, 1) := by decide +kernel
theorem dX10_flown_1 : decode cX10_flown 1 = .ok (.iconst 0, 1) := by decide +kernel
theorem dX10_flown_2 : decode cX10_flown 2 = .ok (.putfield 111, 3) := by decide +kernel
theorem dX10_flown_5 : decode cX10_flown 5 = .ok (.aload_n 0, 1) := by decide +kernel
theorem dX10_flown_6 : decode cX10_flown 6 = .ok (.iload_n 1, 1) := by decide +kernel
theorem dX10_flown_7 : decode cX10_flown 7 = .ok (.iload_n 2, 1) := by decide +kernel
theorem dX10_flown_8 : decode cX10_flown 8 = .ok (.iload_n 3, 1) := by decide +kernel
theorem dX10_flown_9 : decode cX10_flown 9 = .ok (.invokevirtual 375, 3) := by decide +kernel
theorem dX10_flown_12 : decode cX10_flown 12 = .ok (.ifCond .ne 7, 3) := by decide +kernel
theorem dX10_flown_19 : decode cX10_flown 19 = .ok (.aload_n 0, 1) := by decide +kernel
theorem dX10_flown_20 : decode cX10_flown 20 = .ok (.iload_n 1, 1) := by decide +kernel
theorem dX10_flown_21 : decode cX10_flown 21 = .ok (.invokevirtual 302, 3) := by decide +kernel
theorem dX10_flown_24 : decode cX10_flown 24 = .ok (.aload_n 0, 1) := by decide +kernel
theorem dX10_flown_25 : decode cX10_flown 25 = .ok (.iload_n 1, 1) := by decide +kernel
theorem dX10_flown_26 : decode cX10_flown 26 = .ok (.iload_n 2, 1) := by decide +kernel
theorem dX10_flown_27 : decode cX10_flown 27 = .ok (.iload_n 3, 1) := by decide +kernel
theorem dX10_flown_28 : decode cX10_flown 28 = .ok (.invokevirtual 432, 3) := by decide +kernel
theorem dX10_flown_31 : decode cX10_flown 31 = .ok (.ldc2_w 345, 3) := by decide +kernel
theorem dX10_flown_34 : decode cX10_flown 34 = .ok (.ldiv, 1) := by decide +kernel
theorem dX10_flown_35 : decode cX10_flown 35 = .ok (.lreturn, 1) := by decide +kernel
theorem dX10_flown_15 : decode cX10_flown 15 = .ok (.ldc2_w 300, 3) := by decide +kernel
theorem dX10_flown_18 : decode cX10_flown 18 = .ok (.lreturn, 1) := by decide +kernel
theorem dX10_plane_0 : decode cX10_plane 0 = .ok (.aload_n 0, 1) := by decide +kernel
theorem dX10_plane_1 : decode cX10_plane 1 = .ok (.iconst 0, 1) := by decide +kernel
theorem dX10_plane_2 : decode cX10_plane 2 = .ok (.putfield 111, 3) := by decide +kernel
theorem dX10_plane_5 : decode cX10_plane 5 = .ok (.aload_n 0, 1) := by decide +kernel
theorem dX10_plane_6 : decode cX10_plane 6 = .ok (.iload_n 1, 1) := by decide +kernel
theorem dX10_plane_7 : decode cX10_plane 7 = .ok (.iload_n 2, 1) := by decide +kernel
theorem dX10_plane_8 : decode cX10_plane 8 = .ok (.iconst 0, 1) := by decide +kernel
theorem dX10_plane_9 : decode cX10_plane 9 = .ok (.invokevirtual 375, 3) := by decide +kernel
theorem dX10_plane_12 : decode cX10_plane 12 = .ok (.ifCond .ne 6, 3) := by decide +kernel
theorem dX10_plane_18 : decode cX10_plane 18 = .ok (.aload_n 0, 1) := by decide +kernel
theorem dX10_plane_19 : decode cX10_plane 19 = .ok (.iload_n 1, 1) := by decide +kernel
theorem dX10_plane_20 : decode cX10_plane 20 = .ok (.invokevirtual 302, 3) := by decide +kernel
theorem dX10_plane_23 : decode cX10_plane 23 = .ok (.iconst 0, 1) := by decide +kernel
theorem dX10_plane_24 : decode cX10_plane 24 = .ok (.istore_n 3, 1) := by decide +kernel
theorem dX10_plane_25 : decode cX10_plane 25 = .ok (.aload_n 0, 1) := by decide +kernel
theorem dX10_plane_26 : decode cX10_plane 26 = .ok (.iload_n 1, 1) := by decide +kernel
theorem dX10_plane_27 : decode cX10_plane 27 = .ok (.iload_n 2, 1) := by decide +kernel
theorem dX10_plane_28 : decode cX10_plane 28 = .ok (.iconst 0, 1) := by decide +kernel
theorem dX10_plane_29 : decode cX10_plane 29 = .ok (.invokevirtual 432, 3) := by decide +kernel
theorem dX10_plane_32 : decode cX10_plane 32 = .ok (.lstore 4, 2) := by decide +kernel
theorem dX10_plane_34 : decode cX10_plane 34 = .ok (.iconst 1, 1) := by decide +kernel
theorem dX10_plane_35 : decode cX10_plane 35 = .ok (.istore 6, 2) := by decide +kernel
theorem dX10_plane_37 : decode cX10_plane 37 = .ok (.iload 6, 2) := by decide +kernel
theorem dX10_plane_39 : decode cX10_plane 39 = .ok (.sipush 999, 3) := by decide +kernel
theorem dX10_plane_42 : decode cX10_plane 42 = .ok (.if_icmp .gt 37, 3) := by decide +kernel
theorem dX10_plane_79 : decode cX10_plane 79 = .ok (.iload_n 3, 1) := by decide +kernel
theorem dX10_plane_80 : decode cX10_plane 80 = .ok (.ireturn, 1) := by decide +kernel
theorem dX10_plane_45 : decode cX10_plane 45 = .ok (.aload_n 0, 1) := by decide +kernel
theorem dX10_plane_46 : decode cX10_plane 46 = .ok (.iload_n 1, 1) := by decide +kernel
theorem dX10_plane_47 : decode cX10_plane 47 = .ok (.iload_n 2, 1) := by decide +kernel
theorem dX10_plane_48 : decode cX10_plane 48 = .ok (.iload 6, 2) := by decide +kernel
theorem dX10_plane_50 : decode cX10_plane 50 = .ok (.invokevirtual 432, 3) := by decide +kernel
theorem dX10_plane_53 : decode cX10_plane 53 = .ok (.lstore 7, 2) := by decide +kernel
theorem dX10_plane_55 : decode cX10_plane 55 = .ok (.lload 7, 2) := by decide +kernel
theorem dX10_plane_57 : decode cX10_plane 57 = .ok (.lload 4, 2) := by decide +kernel
theorem dX10_plane_59 : decode cX10_plane 59 = .ok (.lcmp, 1) := by decide +kernel
theorem dX10_plane_60 : decode cX10_plane 60 = .ok (.ifCond .lt 6, 3) := by decide +kernel
theorem dX10_plane_66 : decode cX10_plane 66 = .ok (.iload 6, 2) := by decide +kernel
theorem dX10_plane_68 : decode cX10_plane 68 = .ok (.istore_n 3, 1) := by decide +kernel
theorem dX10_plane_69 : decode cX10_plane 69 = .ok (.lload 7, 2) := by decide +kernel
theorem dX10_plane_71 : decode cX10_plane 71 = .ok (.lstore 4, 2) := by decide +kernel
theorem dX10_plane_73 : decode cX10_plane 73 = .ok (.iinc 6 1, 3) := by decide +kernel
theorem dX10_plane_76 : decode cX10_plane 76 = .ok (.goto (-39), 3) := by decide +kernel
theorem dX10_plane_63 : decode cX10_plane 63 = .ok (.goto 10, 3) := by decide +kernel
theorem dX10_plane_15 : decode cX10_plane 15 = .ok (.bipush (-2), 2) := by decide +kernel
theorem dX10_plane_17 : decode cX10_plane 17 = .ok (.ireturn, 1) := by decide +kernel
theorem dX10_edge_0 : decode cX10_edge 0 = .ok (.aload_n 0, 1) := by decide +kernel
theorem dX10_edge_1 : decode cX10_edge 1 = .ok (.iconst 0, 1) := by decide +kernel
theorem dX10_edge_2 : decode cX10_edge 2 = .ok (.putfield 111, 3) := by decide +kernel
theorem dX10_edge_5 : decode cX10_edge 5 = .ok (.aload_n 0, 1) := by decide +kernel
theorem dX10_edge_6 : decode cX10_edge 6 = .ok (.iload_n 1, 1) := by decide +kernel
theorem dX10_edge_7 : decode cX10_edge 7 = .ok (.invokevirtual 350, 3) := by decide +kernel
theorem dX10_edge_10 : decode cX10_edge 10 = .ok (.ifCond .ne 6, 3) := by decide +kernel
theorem dX10_edge_16 : decode cX10_edge 16 = .ok (.iconst 1, 1) := by decide +kernel
theorem dX10_edge_17 : decode cX10_edge 17 = .ok (.istore_n 2, 1) := by decide +kernel
theorem dX10_edge_18 : decode cX10_edge 18 = .ok (.iload_n 2, 1) := by decide +kernel
theorem dX10_edge_19 : decode cX10_edge 19 = .ok (.aload_n 0, 1) := by decide +kernel
theorem dX10_edge_20 : decode cX10_edge 20 = .ok (.getfield 55, 3) := by decide +kernel
theorem dX10_edge_23 : decode cX10_edge 23 = .ok (.iconst 3, 1) := by decide +kernel
theorem dX10_edge_24 : decode cX10_edge 24 = .ok (.iaload, 1) := by decide +kernel
theorem dX10_edge_25 : decode cX10_edge 25 = .ok (.if_icmp .gt 27, 3) := by decide +kernel
theorem dX10_edge_52 : decode cX10_edge 52 = .ok (.iconst (-1), 1) := by decide +kernel
theorem dX10_edge_53 : decode cX10_edge 53 = .ok (.ireturn, 1) := by decide +kernel
theorem dX10_edge_28 : decode cX10_edge 28 = .ok (.iload_n 2, 1) := by decide +kernel
theorem dX10_edge_29 : decode cX10_edge 29 = .ok (.aload_n 0, 1) := by decide +kernel
theorem dX10_edge_30 : decode cX10_edge 30 = .ok (.iload_n 1, 1) := by decide +kernel
theorem dX10_edge_31 : decode cX10_edge 31 = .ok (.invokevirtual 357, 3) := by decide +kernel
theorem dX10_edge_34 : decode cX10_edge 34 = .ok (.imul, 1) := by decide +kernel
theorem dX10_edge_35 : decode cX10_edge 35 = .ok (.aload_n 0, 1) := by decide +kernel
theorem dX10_edge_36 : decode cX10_edge 36 = .ok (.getfield 55, 3) := by decide +kernel
theorem dX10_edge_39 : decode cX10_edge 39 = .ok (.iconst 4, 1) := by decide +kernel
theorem dX10_edge_40 : decode cX10_edge 40 = .ok (.iaload, 1) := by decide +kernel
theorem dX10_edge_41 : decode cX10_edge 41 = .ok (.if_icmp .le 5, 3) := by decide +kernel
theorem dX10_edge_46 : decode cX10_edge 46 = .ok (.iinc 2 1, 3) := by decide +kernel
theorem dX10_edge_49 : decode cX10_edge 49 = .ok (.goto (-31), 3) := by decide +kernel
theorem dX10_edge_44 : decode cX10_edge 44 = .ok (.iload_n 2, 1) := by decide +kernel
theorem dX10_edge_45 : decode cX10_edge 45 = .ok (.ireturn, 1) := by decide +kernel
theorem dX10_edge_13 : decode cX10_edge 13 = .ok (.bipush (-2), 2) := by decide +kernel
theorem dX10_edge_15 : decode cX10_edge 15 = .ok (.ireturn, 1) := by decide +kernel
theorem dX10_pathOf_0 : decode cX10_pathOf 0 = .ok (.iconst 0, 1) := by decide +kernel
theorem dX10_pathOf_1 : decode cX10_pathOf 1 = .ok (.istore_n 3, 1) := by decide +kernel
theorem dX10_pathOf_2 : decode cX10_pathOf 2 = .ok (.iload_n 3, 1) := by decide +kernel
theorem dX10_pathOf_3 : decode cX10_pathOf 3 = .ok (.aload_n 0, 1) := by decide +kernel
theorem dX10_pathOf_4 : decode cX10_pathOf 4 = .ok (.getfield 49, 3) := by decide +kernel
theorem dX10_pathOf_7 : decode cX10_pathOf 7 = .ok (.iconst 0, 1) := by decide +kernel
theorem dX10_pathOf_8 : decode cX10_pathOf 8 = .ok (.iaload, 1) := by decide +kernel
theorem dX10_pathOf_9 : decode cX10_pathOf 9 = .ok (.if_icmp .ge 72, 3) := by decide +kernel
theorem dX10_pathOf_81 : decode cX10_pathOf 81 = .ok (.iconst (-1), 1) := by decide +kernel
theorem dX10_pathOf_82 : decode cX10_pathOf 82 = .ok (.ireturn, 1) := by decide +kernel
theorem dX10_pathOf_12 : decode cX10_pathOf 12 = .ok (.aload_n 0, 1) := by decide +kernel
theorem dX10_pathOf_13 : decode cX10_pathOf 13 = .ok (.getfield 52, 3) := by decide +kernel
theorem dX10_pathOf_16 : decode cX10_pathOf 16 = .ok (.iconst 3, 1) := by decide +kernel
theorem dX10_pathOf_17 : decode cX10_pathOf 17 = .ok (.iload_n 3, 1) := by decide +kernel
theorem dX10_pathOf_18 : decode cX10_pathOf 18 = .ok (.imul, 1) := by decide +kernel
theorem dX10_pathOf_19 : decode cX10_pathOf 19 = .ok (.iaload, 1) := by decide +kernel
theorem dX10_pathOf_20 : decode cX10_pathOf 20 = .ok (.iload_n 1, 1) := by decide +kernel
theorem dX10_pathOf_21 : decode cX10_pathOf 21 = .ok (.if_icmp .ne 17, 3) := by decide +kernel
theorem dX10_pathOf_38 : decode cX10_pathOf 38 = .ok (.aload_n 0, 1) := by decide +kernel
theorem dX10_pathOf_39 : decode cX10_pathOf 39 = .ok (.getfield 52, 3) := by decide +kernel
theorem dX10_pathOf_42 : decode cX10_pathOf 42 = .ok (.iconst 3, 1) := by decide +kernel
theorem dX10_pathOf_43 : decode cX10_pathOf 43 = .ok (.iload_n 3, 1) := by decide +kernel
theorem dX10_pathOf_44 : decode cX10_pathOf 44 = .ok (.imul, 1) := by decide +kernel
theorem dX10_pathOf_45 : decode cX10_pathOf 45 = .ok (.iaload, 1) := by decide +kernel
theorem dX10_pathOf_46 : decode cX10_pathOf 46 = .ok (.iload_n 2, 1) := by decide +kernel
theorem dX10_pathOf_47 : decode cX10_pathOf 47 = .ok (.if_icmp .ne 28, 3) := by decide +kernel
theorem dX10_pathOf_75 : decode cX10_pathOf 75 = .ok (.iinc 3 1, 3) := by decide +kernel
theorem dX10_pathOf_78 : decode cX10_pathOf 78 = .ok (.goto (-76), 3) := by decide +kernel
theorem dX10_pathOf_50 : decode cX10_pathOf 50 = .ok (.aload_n 0, 1) := by decide +kernel
theorem dX10_pathOf_51 : decode cX10_pathOf 51 = .ok (.getfield 52, 3) := by decide +kernel
theorem dX10_pathOf_54 : decode cX10_pathOf 54 = .ok (.iconst 3, 1) := by decide +kernel
theorem dX10_pathOf_55 : decode cX10_pathOf 55 = .ok (.iload_n 3, 1) := by decide +kernel
theorem dX10_pathOf_56 : decode cX10_pathOf 56 = .ok (.imul, 1) := by decide +kernel
theorem dX10_pathOf_57 : decode cX10_pathOf 57 = .ok (.iconst 1, 1) := by decide +kernel
theorem dX10_pathOf_58 : decode cX10_pathOf 58 = .ok (.iadd, 1) := by decide +kernel
theorem dX10_pathOf_59 : decode cX10_pathOf 59 = .ok (.iaload, 1) := by decide +kernel
theorem dX10_pathOf_60 : decode cX10_pathOf 60 = .ok (.iload_n 1, 1) := by decide +kernel
theorem dX10_pathOf_61 : decode cX10_pathOf 61 = .ok (.if_icmp .ne 14, 3) := by decide +kernel
theorem dX10_pathOf_64 : decode cX10_pathOf 64 = .ok (.aload_n 0, 1) := by decide +kernel
theorem dX10_pathOf_65 : decode cX10_pathOf 65 = .ok (.getfield 52, 3) := by decide +kernel
theorem dX10_pathOf_68 : decode cX10_pathOf 68 = .ok (.iconst 3, 1) := by decide +kernel
theorem dX10_pathOf_69 : decode cX10_pathOf 69 = .ok (.iload_n 3, 1) := by decide +kernel
theorem dX10_pathOf_70 : decode cX10_pathOf 70 = .ok (.imul, 1) := by decide +kernel
theorem dX10_pathOf_71 : decode cX10_pathOf 71 = .ok (.iconst 2, 1) := by decide +kernel
theorem dX10_pathOf_72 : decode cX10_pathOf 72 = .ok (.iadd, 1) := by decide +kernel
theorem dX10_pathOf_73 : decode cX10_pathOf 73 = .ok (.iaload, 1) := by decide +kernel
theorem dX10_pathOf_74 : decode cX10_pathOf 74 = .ok (.ireturn, 1) := by decide +kernel
theorem dX10_pathOf_24 : decode cX10_pathOf 24 = .ok (.aload_n 0, 1) := by decide +kernel
theorem dX10_pathOf_25 : decode cX10_pathOf 25 = .ok (.getfield 52, 3) := by decide +kernel
theorem dX10_pathOf_28 : decode cX10_pathOf 28 = .ok (.iconst 3, 1) := by decide +kernel
theorem dX10_pathOf_29 : decode cX10_pathOf 29 = .ok (.iload_n 3, 1) := by decide +kernel
theorem dX10_pathOf_30 : decode cX10_pathOf 30 = .ok (.imul, 1) := by decide +kernel
theorem dX10_pathOf_31 : decode cX10_pathOf 31 = .ok (.iconst 1, 1) := by decide +kernel
theorem dX10_pathOf_32 : decode cX10_pathOf 32 = .ok (.iadd, 1) := by decide +kernel
theorem dX10_pathOf_33 : decode cX10_pathOf 33 = .ok (.iaload, 1) := by decide +kernel
theorem dX10_pathOf_34 : decode cX10_pathOf 34 = .ok (.iload_n 2, 1) := by decide +kernel
theorem dX10_pathOf_35 : decode cX10_pathOf 35 = .ok (.if_icmp .eq 29, 3) := by decide +kernel
theorem dX10_fedBy_0 : decode cX10_fedBy 0 = .ok (.iload_n 2, 1) := by decide +kernel
theorem dX10_fedBy_1 : decode cX10_fedBy 1 = .ok (.ifCond .eq 12, 3) := by decide +kernel
theorem dX10_fedBy_13 : decode cX10_fedBy 13 = .ok (.iconst 0, 1) := by decide +kernel
theorem dX10_fedBy_14 : decode cX10_fedBy 14 = .ok (.ireturn, 1) := by decide +kernel
theorem dX10_fedBy_4 : decode cX10_fedBy 4 = .ok (.iload_n 3, 1) := by decide +kernel
theorem dX10_fedBy_5 : decode cX10_fedBy 5 = .ok (.ifCond .eq 10, 3) := by decide +kernel
theorem dX10_fedBy_15 : decode cX10_fedBy 15 = .ok (.iload_n 3, 1) := by decide +kernel
theorem dX10_fedBy_16 : decode cX10_fedBy 16 = .ok (.ifCond .ne 10, 3) := by decide +kernel
theorem dX10_fedBy_19 : decode cX10_fedBy 19 = .ok (.aload_n 0, 1) := by decide +kernel
theorem dX10_fedBy_20 : decode cX10_fedBy 20 = .ok (.invokevirtual 278, 3) := by decide +kernel
theorem dX10_fedBy_23 : decode cX10_fedBy 23 = .ok (.goto 4, 3) := by decide +kernel
theorem dX10_fedBy_27 : decode cX10_fedBy 27 = .ok (.iload_n 2, 1) := by decide +kernel
theorem dX10_fedBy_28 : decode cX10_fedBy 28 = .ok (.isub, 1) := by decide +kernel
theorem dX10_fedBy_29 : decode cX10_fedBy 29 = .ok (.istore 4, 2) := by decide +kernel
theorem dX10_fedBy_31 : decode cX10_fedBy 31 = .ok (.iload_n 1, 1) := by decide +kernel
theorem dX10_fedBy_32 : decode cX10_fedBy 32 = .ok (.iload 4, 2) := by decide +kernel
theorem dX10_fedBy_34 : decode cX10_fedBy 34 = .ok (.if_icmp .ge 7, 3) := by decide +kernel
theorem dX10_fedBy_41 : decode cX10_fedBy 41 = .ok (.iload 4, 2) := by decide +kernel
theorem dX10_fedBy_43 : decode cX10_fedBy 43 = .ok (.ireturn, 1) := by decide +kernel
theorem dX10_fedBy_37 : decode cX10_fedBy 37 = .ok (.iload_n 1, 1) := by decide +kernel
theorem dX10_fedBy_38 : decode cX10_fedBy 38 = .ok (.goto 5, 3) := by decide +kernel
theorem dX10_fedBy_8 : decode cX10_fedBy 8 = .ok (.iload_n 3, 1) := by decide +kernel
theorem dX10_fedBy_9 : decode cX10_fedBy 9 = .ok (.iload_n 2, 1) := by decide +kernel
theorem dX10_fedBy_10 : decode cX10_fedBy 10 = .ok (.if_icmp .gt 5, 3) := by decide +kernel
theorem dX10_fedBy_26 : decode cX10_fedBy 26 = .ok (.iload_n 3, 1) := by decide +kernel
theorem dX10_path_0 : decode cX10_path 0 = .ok (.aload_n 0, 1) := by decide +kernel
theorem dX10_path_1 : decode cX10_path 1 = .ok (.iconst 0, 1) := by decide +kernel
theorem dX10_path_2 : decode cX10_path 2 = .ok (.putfield 111, 3) := by decide +kernel
theorem dX10_path_5 : decode cX10_path 5 = .ok (.aload_n 0, 1) := by decide +kernel
theorem dX10_path_6 : decode cX10_path 6 = .ok (.iload_n 1, 1) := by decide +kernel
theorem dX10_path_7 : decode cX10_path 7 = .ok (.iload_n 2, 1) := by decide +kernel
theorem dX10_path_8 : decode cX10_path 8 = .ok (.invokevirtual 323, 3) := by decide +kernel
theorem dX10_path_11 : decode cX10_path 11 = .ok (.ifCond .eq 20, 3) := by decide +kernel
theorem dX10_path_14 : decode cX10_path 14 = .ok (.aload_n 0, 1) := by decide +kernel
theorem dX10_path_15 : decode cX10_path 15 = .ok (.iload_n 3, 1) := by decide +kernel
theorem dX10_path_16 : decode cX10_path 16 = .ok (.invokevirtual 350, 3) := by decide +kernel
theorem dX10_path_19 : decode cX10_path 19 = .ok (.ifCond .eq 12, 3) := by decide +kernel
theorem dX10_path_22 : decode cX10_path 22 = .ok (.aload_n 0, 1) := by decide +kernel
theorem dX10_path_23 : decode cX10_path 23 = .ok (.iload 4, 2) := by decide +kernel
theorem dX10_path_25 : decode cX10_path 25 = .ok (.invokevirtual 372, 3) := by decide +kernel
theorem dX10_path_28 : decode cX10_path 28 = .ok (.ifCond .ne 7, 3) := by decide +kernel
theorem dX10_path_35 : decode cX10_path 35 = .ok (.aload_n 0, 1) := by decide +kernel
theorem dX10_path_36 : decode cX10_path 36 = .ok (.iload_n 1, 1) := by decide +kernel
theorem dX10_path_37 : decode cX10_path 37 = .ok (.iload_n 2, 1) := by decide +kernel
theorem dX10_path_38 : decode cX10_path 38 = .ok (.invokevirtual 435, 3) := by decide +kernel
theorem dX10_path_41 : decode cX10_path 41 = .ok (.istore 5, 2) := by decide +kernel
theorem dX10_path_43 : decode cX10_path 43 = .ok (.iload 5, 2) := by decide +kernel
theorem dX10_path_45 : decode cX10_path 45 = .ok (.iconst (-1), 1) := by decide +kernel
theorem dX10_path_46 : decode cX10_path 46 = .ok (.if_icmp .ne 21, 3) := by decide +kernel
theorem dX10_path_67 : decode cX10_path 67 = .ok (.aload_n 0, 1) := by decide +kernel
theorem dX10_path_68 : decode cX10_path 68 = .ok (.iload_n 1, 1) := by decide +kernel
theorem dX10_path_69 : decode cX10_path 69 = .ok (.iload_n 2, 1) := by decide +kernel
theorem dX10_path_70 : decode cX10_path 70 = .ok (.invokevirtual 327, 3) := by decide +kernel
theorem dX10_path_73 : decode cX10_path 73 = .ok (.ldc2_w 284, 3) := by decide +kernel
theorem dX10_path_76 : decode cX10_path 76 = .ok (.aload_n 0, 1) := by decide +kernel
theorem dX10_path_77 : decode cX10_path 77 = .ok (.iload_n 3, 1) := by decide +kernel
theorem dX10_path_78 : decode cX10_path 78 = .ok (.invokevirtual 363, 3) := by decide +kernel
theorem dX10_path_81 : decode cX10_path 81 = .ok (.i2l, 1) := by decide +kernel
theorem dX10_path_82 : decode cX10_path 82 = .ok (.lmul, 1) := by decide +kernel
theorem dX10_path_83 : decode cX10_path 83 = .ok (.iload 4, 2) := by decide +kernel
theorem dX10_path_85 : decode cX10_path 85 = .ok (.i2l, 1) := by decide +kernel
theorem dX10_path_86 : decode cX10_path 86 = .ok (.lmul, 1) := by decide +kernel
theorem dX10_path_87 : decode cX10_path 87 = .ok (.lstore 6, 2) := by decide +kernel
theorem dX10_path_89 : decode cX10_path 89 = .ok (.iconst 0, 1) := by decide +kernel
theorem dX10_path_90 : decode cX10_path 90 = .ok (.istore 8, 2) := by decide +kernel
theorem dX10_path_92 : decode cX10_path 92 = .ok (.iload 8, 2) := by decide +kernel
theorem dX10_path_94 : decode cX10_path 94 = .ok (.aload_n 0, 1) := by decide +kernel
theorem dX10_path_95 : decode cX10_path 95 = .ok (.invokevirtual 278, 3) := by decide +kernel
theorem dX10_path_98 : decode cX10_path 98 = .ok (.if_icmp .gt 82, 3) := by decide +kernel
theorem dX10_path_180 : decode cX10_path 180 = .ok (.lload 6, 2) := by decide +kernel
theorem dX10_path_182 : decode cX10_path 182 = .ok (.ldc2_w 345, 3) := by decide +kernel
theorem dX10_path_185 : decode cX10_path 185 = .ok (.ldiv, 1) := by decide +kernel
theorem dX10_path_186 : decode cX10_path 186 = .ok (.lreturn, 1) := by decide +kernel
theorem dX10_path_101 : decode cX10_path 101 = .ok (.iconst 0, 1) := by decide +kernel
theorem dX10_path_102 : decode cX10_path 102 = .ok (.istore 9, 2) := by decide +kernel
theorem dX10_path_104 : decode cX10_path 104 = .ok (.iload 9, 2) := by decide +kernel
theorem dX10_path_106 : decode cX10_path 106 = .ok (.aload_n 0, 1) := by decide +kernel
theorem dX10_path_107 : decode cX10_path 107 = .ok (.invokevirtual 278, 3) := by decide +kernel
theorem dX10_path_110 : decode cX10_path 110 = .ok (.if_icmp .gt 64, 3) := by decide +kernel
theorem dX10_path_174 : decode cX10_path 174 = .ok (.iinc 8 1, 3) := by decide +kernel
theorem dX10_path_177 : decode cX10_path 177 = .ok (.goto (-85), 3) := by decide +kernel
theorem dX10_path_113 : decode cX10_path 113 = .ok (.lload 6, 2) := by decide +kernel
theorem dX10_path_115 : decode cX10_path 115 = .ok (.aload_n 0, 1) := by decide +kernel
theorem dX10_path_116 : decode cX10_path 116 = .ok (.iload 8, 2) := by decide +kernel
theorem dX10_path_118 : decode cX10_path 118 = .ok (.iload 9, 2) := by decide +kernel
theorem dX10_path_120 : decode cX10_path 120 = .ok (.invokevirtual 330, 3) := by decide +kernel
theorem dX10_path_123 : decode cX10_path 123 = .ok (.aload_n 0, 1) := by decide +kernel
theorem dX10_path_124 : decode cX10_path 124 = .ok (.iload_n 3, 1) := by decide +kernel
theorem dX10_path_125 : decode cX10_path 125 = .ok (.iload 8, 2) := by decide +kernel
theorem dX10_path_127 : decode cX10_path 127 = .ok (.ifCond .ne 7, 3) := by decide +kernel
theorem dX10_path_134 : decode cX10_path 134 = .ok (.aload_n 0, 1) := by decide +kernel
theorem dX10_path_135 : decode cX10_path 135 = .ok (.iload_n 1, 1) := by decide +kernel
theorem dX10_path_136 : decode cX10_path 136 = .ok (.iload_n 3, 1) := by decide +kernel
theorem dX10_path_137 : decode cX10_path 137 = .ok (.invokevirtual 347, 3) := by decide +kernel
theorem dX10_path_140 : decode cX10_path 140 = .ok (.aload_n 0, 1) := by decide +kernel
theorem dX10_path_141 : decode cX10_path 141 = .ok (.invokevirtual 278, 3) := by decide +kernel
theorem dX10_path_144 : decode cX10_path 144 = .ok (.iload 8, 2) := by decide +kernel
theorem dX10_path_146 : decode cX10_path 146 = .ok (.isub, 1) := by decide +kernel
theorem dX10_path_147 : decode cX10_path 147 = .ok (.aload_n 0, 1) := by decide +kernel
theorem dX10_path_148 : decode cX10_path 148 = .ok (.iload 5, 2) := by decide +kernel
theorem dX10_path_150 : decode cX10_path 150 = .ok (.iload 8, 2) := by decide +kernel
theorem dX10_path_152 : decode cX10_path 152 = .ok (.iload 9, 2) := by decide +kernel
theorem dX10_path_154 : decode cX10_path 154 = .ok (.invokevirtual 438, 3) := by decide +kernel
theorem dX10_path_157 : decode cX10_path 157 = .ok (.isub, 1) := by decide +kernel
theorem dX10_path_158 : decode cX10_path 158 = .ok (.imul, 1) := by decide +kernel
theorem dX10_path_159 : decode cX10_path 159 = .ok (.iload 4, 2) := by decide +kernel
theorem dX10_path_161 : decode cX10_path 161 = .ok (.invokevirtual 366, 3) := by decide +kernel
theorem dX10_path_164 : decode cX10_path 164 = .ok (.lmul, 1) := by decide +kernel
theorem dX10_path_165 : decode cX10_path 165 = .ok (.ladd, 1) := by decide +kernel
theorem dX10_path_166 : decode cX10_path 166 = .ok (.lstore 6, 2) := by decide +kernel
theorem dX10_path_168 : decode cX10_path 168 = .ok (.iinc 9 1, 3) := by decide +kernel
theorem dX10_path_171 : decode cX10_path 171 = .ok (.goto (-67), 3) := by decide +kernel
theorem dX10_path_130 : decode cX10_path 130 = .ok (.iconst 0, 1) := by decide +kernel
theorem dX10_path_131 : decode cX10_path 131 = .ok (.goto 28, 3) := by decide +kernel
theorem dX10_path_49 : decode cX10_path 49 = .ok (.aload_n 0, 1) := by decide +kernel
theorem dX10_path_50 : decode cX10_path 50 = .ok (.iload_n 1, 1) := by decide +kernel
theorem dX10_path_51 : decode cX10_path 51 = .ok (.invokevirtual 302, 3) := by decide +kernel
theorem dX10_path_54 : decode cX10_path 54 = .ok (.aload_n 0, 1) := by decide +kernel
theorem dX10_path_55 : decode cX10_path 55 = .ok (.iload_n 1, 1) := by decide +kernel
theorem dX10_path_56 : decode cX10_path 56 = .ok (.iload_n 3, 1) := by decide +kernel
theorem dX10_path_57 : decode cX10_path 57 = .ok (.iload 4, 2) := by decide +kernel
theorem dX10_path_59 : decode cX10_path 59 = .ok (.invokevirtual 378, 3) := by decide +kernel
theorem dX10_path_62 : decode cX10_path 62 = .ok (.ldc2_w 345, 3) := by decide +kernel
theorem dX10_path_65 : decode cX10_path 65 = .ok (.ldiv, 1) := by decide +kernel
theorem dX10_path_66 : decode cX10_path 66 = .ok (.lreturn, 1) := by decide +kernel
theorem dX10_path_31 : decode cX10_path 31 = .ok (.ldc2_w 300, 3) := by decide +kernel
theorem dX10_path_34 : decode cX10_path 34 = .ok (.lreturn, 1) := by decide +kernel
theorem dX10_fed_0 : decode cX10_fed 0 = .ok (.aload_n 0, 1) := by decide +kernel
theorem dX10_fed_1 : decode cX10_fed 1 = .ok (.iconst 0, 1) := by decide +kernel
theorem dX10_fed_2 : decode cX10_fed 2 = .ok (.putfield 111, 3) := by decide +kernel
theorem dX10_fed_5 : decode cX10_fed 5 = .ok (.aload_n 0, 1) := by decide +kernel
theorem dX10_fed_6 : decode cX10_fed 6 = .ok (.iload_n 1, 1) := by decide +kernel
theorem dX10_fed_7 : decode cX10_fed 7 = .ok (.iload_n 2, 1) := by decide +kernel
theorem dX10_fed_8 : decode cX10_fed 8 = .ok (.invokevirtual 323, 3) := by decide +kernel
theorem dX10_fed_11 : decode cX10_fed 11 = .ok (.ifCond .ne 6, 3) := by decide +kernel
theorem dX10_fed_17 : decode cX10_fed 17 = .ok (.aload_n 0, 1) := by decide +kernel
theorem dX10_fed_18 : decode cX10_fed 18 = .ok (.iload_n 1, 1) := by decide +kernel
theorem dX10_fed_19 : decode cX10_fed 19 = .ok (.iload_n 2, 1) := by decide +kernel
theorem dX10_fed_20 : decode cX10_fed 20 = .ok (.invokevirtual 435, 3) := by decide +kernel
theorem dX10_fed_23 : decode cX10_fed 23 = .ok (.istore_n 3, 1) := by decide +kernel
theorem dX10_fed_24 : decode cX10_fed 24 = .ok (.iload_n 3, 1) := by decide +kernel
theorem dX10_fed_25 : decode cX10_fed 25 = .ok (.iconst (-1), 1) := by decide +kernel
theorem dX10_fed_26 : decode cX10_fed 26 = .ok (.if_icmp .ne 5, 3) := by decide +kernel
theorem dX10_fed_31 : decode cX10_fed 31 = .ok (.aload_n 0, 1) := by decide +kernel
theorem dX10_fed_32 : decode cX10_fed 32 = .ok (.iload_n 1, 1) := by decide +kernel
theorem dX10_fed_33 : decode cX10_fed 33 = .ok (.iload_n 2, 1) := by decide +kernel
theorem dX10_fed_34 : decode cX10_fed 34 = .ok (.invokevirtual 327, 3) := by decide +kernel
theorem dX10_fed_37 : decode cX10_fed 37 = .ok (.lconst 0, 1) := by decide +kernel
theorem dX10_fed_38 : decode cX10_fed 38 = .ok (.lstore 4, 2) := by decide +kernel
theorem dX10_fed_40 : decode cX10_fed 40 = .ok (.iconst 0, 1) := by decide +kernel
theorem dX10_fed_41 : decode cX10_fed 41 = .ok (.istore 6, 2) := by decide +kernel
theorem dX10_fed_43 : decode cX10_fed 43 = .ok (.iload 6, 2) := by decide +kernel
theorem dX10_fed_45 : decode cX10_fed 45 = .ok (.aload_n 0, 1) := by decide +kernel
theorem dX10_fed_46 : decode cX10_fed 46 = .ok (.invokevirtual 278, 3) := by decide +kernel
theorem dX10_fed_49 : decode cX10_fed 49 = .ok (.if_icmp .gt 51, 3) := by decide +kernel
theorem dX10_fed_100 : decode cX10_fed 100 = .ok (.lload 4, 2) := by decide +kernel
theorem dX10_fed_102 : decode cX10_fed 102 = .ok (.ldc2_w 441, 3) := by decide +kernel
theorem dX10_fed_105 : decode cX10_fed 105 = .ok (.ldiv, 1) := by decide +kernel
theorem dX10_fed_106 : decode cX10_fed 106 = .ok (.l2i, 1) := by decide +kernel
theorem dX10_fed_107 : decode cX10_fed 107 = .ok (.ireturn, 1) := by decide +kernel
theorem dX10_fed_52 : decode cX10_fed 52 = .ok (.iconst 0, 1) := by decide +kernel
theorem dX10_fed_53 : decode cX10_fed 53 = .ok (.istore 7, 2) := by decide +kernel
theorem dX10_fed_55 : decode cX10_fed 55 = .ok (.iload 7, 2) := by decide +kernel
theorem dX10_fed_57 : decode cX10_fed 57 = .ok (.aload_n 0, 1) := by decide +kernel
theorem dX10_fed_58 : decode cX10_fed 58 = .ok (.invokevirtual 278, 3) := by decide +kernel
theorem dX10_fed_61 : decode cX10_fed 61 = .ok (.if_icmp .gt 33, 3) := by decide +kernel
theorem dX10_fed_94 : decode cX10_fed 94 = .ok (.iinc 6 1, 3) := by decide +kernel
theorem dX10_fed_97 : decode cX10_fed 97 = .ok (.goto (-54), 3) := by decide +kernel
theorem dX10_fed_64 : decode cX10_fed 64 = .ok (.lload 4, 2) := by decide +kernel
theorem dX10_fed_66 : decode cX10_fed 66 = .ok (.aload_n 0, 1) := by decide +kernel
theorem dX10_fed_67 : decode cX10_fed 67 = .ok (.iload 6, 2) := by decide +kernel
theorem dX10_fed_69 : decode cX10_fed 69 = .ok (.iload 7, 2) := by decide +kernel
theorem dX10_fed_71 : decode cX10_fed 71 = .ok (.invokevirtual 330, 3) := by decide +kernel
theorem dX10_fed_74 : decode cX10_fed 74 = .ok (.aload_n 0, 1) := by decide +kernel
theorem dX10_fed_75 : decode cX10_fed 75 = .ok (.iload_n 3, 1) := by decide +kernel
theorem dX10_fed_76 : decode cX10_fed 76 = .ok (.iload 6, 2) := by decide +kernel
theorem dX10_fed_78 : decode cX10_fed 78 = .ok (.iload 7, 2) := by decide +kernel
theorem dX10_fed_80 : decode cX10_fed 80 = .ok (.invokevirtual 438, 3) := by decide +kernel
theorem dX10_fed_83 : decode cX10_fed 83 = .ok (.i2l, 1) := by decide +kernel
theorem dX10_fed_84 : decode cX10_fed 84 = .ok (.lmul, 1) := by decide +kernel
theorem dX10_fed_85 : decode cX10_fed 85 = .ok (.ladd, 1) := by decide +kernel
theorem dX10_fed_86 : decode cX10_fed 86 = .ok (.lstore 4, 2) := by decide +kernel
theorem dX10_fed_88 : decode cX10_fed 88 = .ok (.iinc 7 1, 3) := by decide +kernel
theorem dX10_fed_91 : decode cX10_fed 91 = .ok (.goto (-36), 3) := by decide +kernel
theorem dX10_fed_29 : decode cX10_fed 29 = .ok (.iconst 0, 1) := by decide +kernel
theorem dX10_fed_30 : decode cX10_fed 30 = .ok (.ireturn, 1) := by decide +kernel
theorem dX10_fed_14 : decode cX10_fed 14 = .ok (.bipush (-2), 2) := by decide +kernel
theorem dX10_fed_16 : decode cX10_fed 16 = .ok (.ireturn, 1) := by decide +kernel
theorem sV_X10_363 : SiteV RX10 363 yX10_priceOf cX10_priceOf 2 (some .int) 1 := ⟨ml_X10_363, im_X10_priceOf, se_X10_priceOf, ini_X10, co_X10_priceOf, by decide +kernel⟩
theorem sV_X10_366 : SiteV RX10 366 yX10_outcome cX10_outcome 4 (some .long) 3 := ⟨ml_X10_366, im_X10_outcome, se_X10_outcome, ini_X10, co_X10_outcome, by decide +kernel⟩
theorem sV_X10_375 : SiteV RX10 375 yX10_isStore cX10_isStore 4 (some .boolean) 3 := ⟨ml_X10_375, im_X10_isStore, se_X10_isStore, ini_X10, co_X10_isStore, by decide +kernel⟩
theorem sV_X10_378 : SiteV RX10 378 yX10_costOf cX10_costOf 7 (some .long) 3 := ⟨ml_X10_378, im_X10_costOf, se_X10_costOf, ini_X10, co_X10_costOf, by decide +kernel⟩
theorem sV_X10_383 : SiteV RX10 383 yX10_bestOf cX10_bestOf 9 (some .int) 2 := ⟨ml_X10_383, im_X10_bestOf, se_X10_bestOf, ini_X10, co_X10_bestOf, by decide +kernel⟩
theorem sV_X10_386 : SiteV RX10 386 yX10_lacking cX10_lacking 7 (some .long) 3 := ⟨ml_X10_386, im_X10_lacking, se_X10_lacking, ini_X10, co_X10_lacking, by decide +kernel⟩
theorem sS_X10_392 : SiteS RX10 392 yX10_at3 cX10_at3 3 (some .int) 3 := ⟨ml_X10_392, st_X10_at3, ini_X10, co_X10_at3, by decide +kernel⟩
theorem sV_X10_396 : SiteV RX10 396 yX10_sends cX10_sends 15 (some .long) 6 := ⟨ml_X10_396, im_X10_sends, se_X10_sends, ini_X10, co_X10_sends, by decide +kernel⟩
theorem sV_X10_400 : SiteV RX10 400 yX10_canSend cX10_canSend 3 (some .boolean) 2 := ⟨ml_X10_400, im_X10_canSend, se_X10_canSend, ini_X10, co_X10_canSend, by decide +kernel⟩
theorem sV_X10_403 : SiteV RX10 403 yX10_fewest cX10_fewest 12 (some .int) 5 := ⟨ml_X10_403, im_X10_fewest, se_X10_fewest, ini_X10, co_X10_fewest, by decide +kernel⟩
theorem sV_X10_407 : SiteV RX10 407 yX10_comes cX10_comes 6 none 2 := ⟨ml_X10_407, im_X10_comes, se_X10_comes, ini_X10, co_X10_comes, by decide +kernel⟩
theorem sV_X10_410 : SiteV RX10 410 yX10_lateOf cX10_lateOf 3 (some .long) 2 := ⟨ml_X10_410, im_X10_lateOf, se_X10_lateOf, ini_X10, co_X10_lateOf, by decide +kernel⟩
theorem sV_X10_415 : SiteV RX10 415 yX10_forkOf cX10_forkOf 6 (some .long) 2 := ⟨ml_X10_415, im_X10_forkOf, se_X10_forkOf, ini_X10, co_X10_forkOf, by decide +kernel⟩
theorem sV_X10_418 : SiteV RX10 418 yX10_forks cX10_forks 6 none 3 := ⟨ml_X10_418, im_X10_forks, se_X10_forks, ini_X10, co_X10_forks, by decide +kernel⟩
theorem sV_X10_422 : SiteV RX10 422 yX10_middleOf cX10_middleOf 8 (some .int) 1 := ⟨ml_X10_422, im_X10_middleOf, se_X10_middleOf, ini_X10, co_X10_middleOf, by decide +kernel⟩
theorem sS_X10_425 : SiteS RX10 425 yX10_lesser cX10_lesser 4 (some .long) 2 := ⟨ml_X10_425, st_X10_lesser, ini_X10, co_X10_lesser, by decide +kernel⟩
theorem sV_X10_429 : SiteV RX10 429 yX10_byPlane cX10_byPlane 5 (some .long) 3 := ⟨ml_X10_429, im_X10_byPlane, se_X10_byPlane, ini_X10, co_X10_byPlane, by decide +kernel⟩
theorem sV_X10_432 : SiteV RX10 432 yX10_flownOf cX10_flownOf 7 (some .long) 3 := ⟨ml_X10_432, im_X10_flownOf, se_X10_flownOf, ini_X10, co_X10_flownOf, by decide +kernel⟩
theorem sV_X10_435 : SiteV RX10 435 yX10_pathOf cX10_pathOf 4 (some .int) 2 := ⟨ml_X10_435, im_X10_pathOf, se_X10_pathOf, ini_X10, co_X10_pathOf, by decide +kernel⟩
theorem sV_X10_438 : SiteV RX10 438 yX10_fedBy cX10_fedBy 5 (some .int) 3 := ⟨ml_X10_438, im_X10_fedBy, se_X10_fedBy, ini_X10, co_X10_fedBy, by decide +kernel⟩
set_option maxHeartbeats 4000000 in
set_option maxRecDepth 100000 in
theorem t_X10_costOf (l : Launch) (D : va_G) (cy : Nat → ClassId) (base : Nat) (τ : Nat → Nat) (G : Gh) (a : Nat) (h_a : τ a = 11) (v : Int32) (r_v : 0 ≤ v.toInt ∧ v.toInt ≤ 5) (w : Int32) (r_w : 0 ≤ w.toInt ∧ w.toInt ≤ 2) (z : Int32) : MM l yX10_costOf cX10_costOf 7 (some .long) 2 0 0 D cy [.ref a, .int v, .int w, .int z] (PT D cy base τ G) (PuL (fun r => True)) noF := by
  refine MM.of (by decide) (Nat.le_of_ble_eq_true rfl) ?_
  intro p e s m below meth c C hPT ls hl
  obtain ⟨hx, hb, hr, hml, hown, hts, hlocks, hK, hnm⟩ := C
  obtain ⟨hZ, hT⟩ := hPT
  have hS : va_S (RA base) s.heap s.heap [] := va_S.rf
  have hl : lv_has ls 7 [(0, .ref a), (1, .int v), (2, .int w), (3, .int z)] := hl
  refine lv_ldc2 (v := 1000000000000) hx hb hown (hts _ kl_X10_284) dX10_costOf_0 ?_
  refine lv_aload_n hx hb dX10_costOf_3 rfl (lv_at hl 0 rfl) ?_
  refine lv_iload_n hx hb dX10_costOf_4 rfl (lv_at hl 2 rfl) ?_
  refine pu_calli (runV (As := [.int w]) (rest := [.long 1000000000000]) ⟨hx, hb, hml, hown, hts⟩ (t_X10_priceOf l D cy base τ G a h_a w ⟨by omega, by omega⟩) sV_X10_363 hK (t_recv cf_11 hK hT h_a) ⟨Nat.le_trans hZ hS.1, hT⟩ ⟨Nat.le_of_ble_eq_true rfl, Nat.le_of_ble_eq_true rfl⟩ rfl hl.1 rfl (Nat.le_of_ble_eq_true rfl) dX10_costOf_5 ⟨Nat.le_of_ble_eq_true rfl, Nat.le_of_ble_eq_true rfl⟩) (fun r_1 hr_1 => ?_)
  refine lv_i2l hx hb dX10_costOf_8 rfl ?_
  refine lv_topl (fun z_2 ez_2 => ?_)
  have tz_2 : z_2.toInt = r_1.toInt := by rw [ez_2]; exact wide_t r_1
  have az_2 := min_t r_1
  have bz_2 := max_t r_1
  refine lv_lmul hx hb dX10_costOf_9 ?_
  refine lv_topl (fun z_3 ez_3 => ?_)
  refine lv_iload_n hx hb dX10_costOf_10 rfl (lv_at hl 3 rfl) ?_
  refine lv_i2l hx hb dX10_costOf_11 rfl ?_
  refine lv_topl (fun z_4 ez_4 => ?_)
  have tz_4 : z_4.toInt = z.toInt := by rw [ez_4]; exact wide_t z
  have az_4 := min_t z
  have bz_4 := max_t z
  refine lv_lmul hx hb dX10_costOf_12 ?_
  refine lv_topl (fun z_5 ez_5 => ?_)
  refine lv_lstore (lv' := [(4, .long z_5), (0, .ref a), (1, .int v), (2, .int w), (3, .int z)]) hx hb dX10_costOf_13 hl (by decide) rfl (fun ls hl => ?_)
  refine lv_iconst (v := 0) hx hb dX10_costOf_15 (by decide) ?_
  refine lv_istore (lv' := [(6, .int 0), (4, .long z_5), (0, .ref a), (1, .int v), (2, .int w), (3, .int z)]) hx hb dX10_costOf_16 hl (by decide) rfl (fun ls hl => ?_)
  refine W.loop (σ := Int64 × Int32) (fun w6 H locs ls => 0 ≤ w6.2.toInt ∧ w6.2.toInt ≤ 61 ∧ H = s.heap ∧ locs = [] ∧ lv_has ls 7 [(4, .long w6.1), (6, .int w6.2), (0, .ref a), (1, .int v), (2, .int w), (3, .int z)]) (fun w6 => (61 - w6.2.toInt).toNat) ?_ (z_5, (0 : Int32)) _ _ _ ⟨(by show 0 ≤ (0 : Int32).toInt; decide), (by show (0 : Int32).toInt ≤ 61; decide), rfl, rfl, lv_sub hl [1, 0, 2, 3, 4, 5] rfl⟩
  intro w6 H locs ls hI ih6
  obtain ⟨x6_4, x6_6⟩ := w6
  obtain ⟨i6_0, i6_1, rfl, rfl, hl⟩ := hI
  have i6_0 : 0 ≤ x6_6.toInt := i6_0
  have i6_1 : x6_6.toInt ≤ 61 := i6_1
  have hl : lv_has ls 7 [(4, .long x6_4), (6, .int x6_6), (0, .ref a), (1, .int v), (2, .int w), (3, .int z)] := hl
  refine lv_iload hx hb dX10_costOf_18 (lv_at hl 1 rfl) ?_
  refine lv_aload_n hx hb dX10_costOf_20 rfl (lv_at hl 2 rfl) ?_
  obtain ⟨q_7, eq_7, hq_7⟩ := (show ∃ q, G.2.2.1 a 17 = some q ∧ τ q = 67 from hT.rgr h_a (by decide) 17)
  obtain ⟨z_8, ez_8⟩ : ∃ y : Int32, y = G.1 q_7 0 := ⟨_, rfl⟩
  have qz_8 : (0 % 4 = 0 → 0 ≤ z_8.toInt ∧ z_8.toInt ≤ 60) := by rw [ez_8]; exact hT.rgi hq_7 (by decide) 0
  have rz_8 : 0 ≤ z_8.toInt ∧ z_8.toInt ≤ 60 := by omega
  refine pu_calli (runV (As := []) (rest := [.int x6_6]) ⟨hx, hb, hml, hown, hts⟩ (t_X10_lastDay l D cy base τ G a h_a q_7 hq_7 eq_7 z_8 ez_8 ⟨by omega, by omega⟩) sV_X10_278 hK (t_recv cf_11 hK hT h_a) ⟨Nat.le_trans hZ hS.1, hT⟩ ⟨Nat.le_of_ble_eq_true rfl, Nat.le_of_ble_eq_true rfl⟩ rfl hl.1 rfl (Nat.le_of_ble_eq_true rfl) dX10_costOf_21 ⟨Nat.le_of_ble_eq_true rfl, Nat.le_of_ble_eq_true rfl⟩) (fun r_9 hr_9 => ?_)
  have er_9 := hr_9
  have er_9 := er_9.symm
  subst er_9
  refine W.eq (g2 := F0 m 24 ls [.int z_8, .int x6_6]) rfl ?_
  refine lv_icmp_gt (tgt := 60) hx hb dX10_costOf_24 (by decide) (fun c_10 => ?_) (fun c_10 => ?_)
  · skip
    have tc_10 : z_8.toInt < x6_6.toInt := (fa_lt _ _).mp c_10
    refine lv_lload hx hb dX10_costOf_60 (lv_at hl 0 rfl) ?_
    exact ret_l hx hb hr hlocks ⟨rfl, _, rfl, trivial⟩ (fun _ h => absurd h List.not_mem_nil) (Nat.le_refl _) (Nat.le_refl _) dX10_costOf_62
  · skip
    have tc_10 : ¬ z_8.toInt < x6_6.toInt := fun h => c_10 ((fa_lt _ _).mpr h)
    refine lv_lload hx hb dX10_costOf_27 (lv_at hl 0 rfl) ?_
    refine lv_aload_n hx hb dX10_costOf_29 rfl (lv_at hl 2 rfl) ?_
    refine t_getr cf_11 hx hb hts hown hK hT h_a (k := 29) (P := fun q => τ q = 79) rfl (fun _ h9 => h9) fl_X10_71 (fun _ h9 => h9) dX10_costOf_30 (fun q_11 eq_11 hq_11 => ?_)
    refine lv_iload hx hb dX10_costOf_33 (lv_at hl 1 rfl) ?_
    refine t_lald (n := 61) (i := x6_6) rfl (by decide) hx hb hK hT hq_11 (hT.len hq_11 (by decide)) ⟨by omega, by omega⟩ dX10_costOf_35 (fun z_12 ez_12 => ?_)
    refine lv_aload_n hx hb dX10_costOf_36 rfl (lv_at hl 2 rfl) ?_
    refine lv_iload_n hx hb dX10_costOf_37 rfl (lv_at hl 4 rfl) ?_
    refine lv_aload_n hx hb dX10_costOf_38 rfl (lv_at hl 2 rfl) ?_
    refine lv_iload_n hx hb dX10_costOf_39 rfl (lv_at hl 3 rfl) ?_
    refine lv_iload_n hx hb dX10_costOf_40 rfl (lv_at hl 4 rfl) ?_
    refine lv_iload hx hb dX10_costOf_41 (lv_at hl 1 rfl) ?_
    refine pu_calli (runV (As := [.int v, .int w, .int x6_6]) (rest := [.int w, .ref a, .long z_12, .long x6_4]) ⟨hx, hb, hml, hown, hts⟩ (t_X10_wantsOf l D cy base τ G a h_a v ⟨by omega, by omega⟩ w ⟨by omega, by omega⟩ x6_6) sV_X10_353 hK (t_recv cf_11 hK hT h_a) ⟨Nat.le_trans hZ hS.1, hT⟩ ⟨Nat.le_of_ble_eq_true rfl, Nat.le_of_ble_eq_true rfl⟩ rfl hl.1 rfl (Nat.le_of_ble_eq_true rfl) dX10_costOf_43 ⟨Nat.le_of_ble_eq_true rfl, Nat.le_of_ble_eq_true rfl⟩) (fun r_13 hr_13 => ?_)
    refine lv_iload_n hx hb dX10_costOf_46 rfl (lv_at hl 5 rfl) ?_
    refine pu_calll (runV (As := [.int w, .int r_13, .int z]) (rest := [.long z_12, .long x6_4]) ⟨hx, hb, hml, hown, hts⟩ (t_X10_outcome l D cy base τ G a h_a w ⟨by omega, by omega⟩ r_13 z) sV_X10_366 hK (t_recv cf_11 hK hT h_a) ⟨Nat.le_trans hZ hS.1, hT⟩ ⟨Nat.le_of_ble_eq_true rfl, Nat.le_of_ble_eq_true rfl⟩ rfl hl.1 rfl (Nat.le_of_ble_eq_true rfl) dX10_costOf_47 ⟨Nat.le_of_ble_eq_true rfl, Nat.le_of_ble_eq_true rfl⟩) (fun r_14 hr_14 => ?_)
    refine lv_lmul hx hb dX10_costOf_50 ?_
    refine lv_topl (fun z_15 ez_15 => ?_)
    refine lv_ladd hx hb dX10_costOf_51 ?_
    refine lv_topl (fun z_16 ez_16 => ?_)
    refine lv_lstore (lv' := [(4, .long z_16), (6, .int x6_6), (0, .ref a), (1, .int v), (2, .int w), (3, .int z)]) hx hb dX10_costOf_52 hl (by decide) rfl (fun ls hl => ?_)
    obtain ⟨z_17, ez_17⟩ : ∃ y : Int32, y = x6_6 + 1 := ⟨_, rfl⟩
    have tz_17 : z_17.toInt = x6_6.toInt + 1 := add_t ez_17 (show -2147483648 ≤ x6_6.toInt + 1 by omega) (show x6_6.toInt + 1 < 2147483648 by omega)
    refine lv_iinc (v := z_17) (lv' := [(6, .int z_17), (4, .long z_16), (0, .ref a), (1, .int v), (2, .int w), (3, .int z)]) hx hb dX10_costOf_54 hl (k := 1) rfl (by rw [ez_17]; rfl) (by decide) rfl (fun ls hl => ?_)
    refine lv_goto (tgt := 18) hx hb dX10_costOf_57 (by decide) ?_
    exact ih6 (z_16, z_17) _ _ _ (by show (61 - z_17.toInt).toNat < (61 - x6_6.toInt).toNat; omega) ⟨(by show 0 ≤ z_17.toInt; omega), (by show z_17.toInt ≤ 61; omega), rfl, rfl, lv_sub hl [1, 0, 2, 3, 4, 5] rfl⟩
set_option maxHeartbeats 4000000 in
set_option maxRecDepth 100000 in
theorem t_X10_cost (l : Launch) (D : va_G) (cy : Nat → ClassId) (base : Nat) (τ : Nat → Nat) (G : Gh) (a : Nat) (h_a : τ a = 11) (v0 : Int32) (v1 : Int32) (v2 : Int32) : MM l yX10_cost cX10_cost 4 (some .long) 3 0 0 D cy [.ref a, .int v0, .int v1, .int v2] (PT D cy base τ G) (QT D cy base τ G [11, 79] (fun v g => ∃ r : Int64, v = some (.long r) ∧ (True))) (RA base) := by
  refine MM.of (by decide) (Nat.le_of_ble_eq_true rfl) ?_
  intro p e s m below meth c C hPT ls hl
  obtain ⟨hx, hb, hr, hml, hown, hts, hlocks, hK, hnm⟩ := C
  obtain ⟨hZ, hT⟩ := hPT
  have hS : va_S (RA base) s.heap s.heap [] := va_S.rf
  have hF : Fr τ [11, 79] G G := Fr.rf
  have hl : lv_has ls 4 [(0, .ref a), (1, .int v0), (2, .int v1), (3, .int v2)] := hl
  refine lv_aload_n hx hb dX10_cost_0 rfl (lv_at hl 0 rfl) ?_
  refine lv_iconst (v := 0) hx hb dX10_cost_1 (by decide) ?_
  refine t_puti (x := 0) cf_11 hx hb hts hown hK hT hS h_a (k := 0) rfl trivial fl_X10_111 (fun _ h9 => h9) rfl rfl rfl dX10_cost_2 (fun H locs G_1 eG_1 hT hS => ?_)
  have hF := hF.wI eG_1 h_a rfl
  refine lv_aload_n hx hb dX10_cost_5 rfl (lv_at hl 0 rfl) ?_
  refine lv_iload_n hx hb dX10_cost_6 rfl (lv_at hl 1 rfl) ?_
  refine lv_iload_n hx hb dX10_cost_7 rfl (lv_at hl 2 rfl) ?_
  refine lv_iload_n hx hb dX10_cost_8 rfl (lv_at hl 3 rfl) ?_
  refine pu_calli (runV (As := [.int v0, .int v1, .int v2]) (rest := []) ⟨hx, hb, hml, hown, hts⟩ (t_X10_isStore l D cy base τ G_1 a h_a v0 v1 v2) sV_X10_375 hK (t_recv cf_11 hK hT h_a) ⟨Nat.le_trans hZ hS.1, hT⟩ ⟨Nat.le_of_ble_eq_true rfl, Nat.le_of_ble_eq_true rfl⟩ rfl hl.1 rfl (Nat.le_of_ble_eq_true rfl) dX10_cost_9 ⟨Nat.le_of_ble_eq_true rfl, Nat.le_of_ble_eq_true rfl⟩) (fun r_2 hr_2 => ?_)
  have hr_2_c := hr_2
  rcases hr_2_c with hr_2_0 | hr_2_1
  · skip
    obtain ⟨er_2, hr_2_0_f0, hr_2_0_f1, hr_2_0_f2, hr_2_0_f3, hr_2_0_f4, hr_2_0_f5⟩ := hr_2_0
    have hr_2_0_f0 : 0 ≤ v0.toInt := hr_2_0_f0
    have hr_2_0_f1 : v0.toInt ≤ 5 := hr_2_0_f1
    have hr_2_0_f2 : 0 ≤ v1.toInt := hr_2_0_f2
    have hr_2_0_f3 : v1.toInt ≤ 2 := hr_2_0_f3
    have hr_2_0_f4 : 0 ≤ v2.toInt := hr_2_0_f4
    have hr_2_0_f5 : v2.toInt ≤ 999 := hr_2_0_f5
    subst er_2
    refine W.eq (g2 := F0 m 12 ls [.int 1]) rfl ?_
    refine lv_if_ne (tgt := 19) hx hb dX10_cost_12 (by decide) (fun _ => ?_) (fun c_3 => absurd c_3 (by decide))
    refine lv_aload_n hx hb dX10_cost_19 rfl (lv_at hl 0 rfl) ?_
    refine lv_iload_n hx hb dX10_cost_20 rfl (lv_at hl 1 rfl) ?_
    refine t_callv (runV (As := [.int v0]) (rest := []) ⟨hx, hb, hml, hown, hts⟩ (t_X10_splits l D cy base τ G_1 a h_a v0 ⟨by omega, by omega⟩) sV_X10_302 hK (t_recv cf_11 hK hT h_a) ⟨Nat.le_trans hZ hS.1, hT⟩ ⟨Nat.le_of_ble_eq_true rfl, Nat.le_of_ble_eq_true rfl⟩ rfl hl.1 rfl (Nat.le_of_ble_eq_true rfl) dX10_cost_21 ⟨Nat.le_of_ble_eq_true rfl, Nat.le_of_ble_eq_true rfl⟩) hS (fun G_4 H locs hF_4 hr_4 hT hS => ?_)
    have hF := hF.tr hF_4 rfl
    refine lv_aload_n hx hb dX10_cost_24 rfl (lv_at hl 0 rfl) ?_
    refine lv_iload_n hx hb dX10_cost_25 rfl (lv_at hl 1 rfl) ?_
    refine lv_iload_n hx hb dX10_cost_26 rfl (lv_at hl 2 rfl) ?_
    refine lv_iload_n hx hb dX10_cost_27 rfl (lv_at hl 3 rfl) ?_
    refine pu_calll (runV (As := [.int v0, .int v1, .int v2]) (rest := []) ⟨hx, hb, hml, hown, hts⟩ (t_X10_costOf l D cy base τ G_4 a h_a v0 ⟨by omega, by omega⟩ v1 ⟨by omega, by omega⟩ v2) sV_X10_378 hK (t_recv cf_11 hK hT h_a) ⟨Nat.le_trans hZ hS.1, hT⟩ ⟨Nat.le_of_ble_eq_true rfl, Nat.le_of_ble_eq_true rfl⟩ rfl hl.1 rfl (Nat.le_of_ble_eq_true rfl) dX10_cost_28 ⟨Nat.le_of_ble_eq_true rfl, Nat.le_of_ble_eq_true rfl⟩) (fun r_5 hr_5 => ?_)
    refine lv_ldc2 (v := 1000000000) hx hb hown (hts _ kl_X10_345) dX10_cost_31 ?_
    refine lv_ldiv hx hb dX10_cost_34 (by decide) ?_
    refine lv_topl (fun z_6 ez_6 => ?_)
    exact ret_l hx hb hr hlocks ⟨⟨hS.1, hS.2.1⟩, G_4, hF, ⟨_, rfl, trivial⟩, hT⟩ hS.2.2 (Nat.le_of_ble_eq_true rfl) (Nat.le_of_ble_eq_true rfl) dX10_cost_35
  · skip
    have er_2 := hr_2_1
    subst er_2
    refine W.eq (g2 := F0 m 12 ls [.int 0]) rfl ?_
    refine lv_if_ne (tgt := 19) hx hb dX10_cost_12 (by decide) (fun c_7 => absurd rfl c_7) (fun _ => ?_)
    refine lv_ldc2 (v := (-2)) hx hb hown (hts _ kl_X10_300) dX10_cost_15 ?_
    exact ret_l hx hb hr hlocks ⟨⟨hS.1, hS.2.1⟩, G_1, hF, ⟨_, rfl, trivial⟩, hT⟩ hS.2.2 (Nat.le_of_ble_eq_true rfl) (Nat.le_of_ble_eq_true rfl) dX10_cost_18
set_option maxHeartbeats 4000000 in
set_option maxRecDepth 100000 in
theorem t_X10_worth (l : Launch) (D : va_G) (cy : Nat → ClassId) (base : Nat) (τ : Nat → Nat) (G : Gh) (a : Nat) (h_a : τ a = 11) (v0 : Int32) (v1 : Int32) (v2 : Int32) : MM l yX10_worth cX10_worth 4 (some .long) 3 0 0 D cy [.ref a, .int v0, .int v1, .int v2] (PT D cy base τ G) (QT D cy base τ G [11, 79] (fun v g => ∃ r : Int64, v = some (.long r) ∧ (True))) (RA base) := by
  refine MM.of (by decide) (Nat.le_of_ble_eq_true rfl) ?_
  intro p e s m below meth c C hPT ls hl
  obtain ⟨hx, hb, hr, hml, hown, hts, hlocks, hK, hnm⟩ := C
  obtain ⟨hZ, hT⟩ := hPT
  have hS : va_S (RA base) s.heap s.heap [] := va_S.rf
  have hF : Fr τ [11, 79] G G := Fr.rf
  have hl : lv_has ls 4 [(0, .ref a), (1, .int v0), (2, .int v1), (3, .int v2)] := hl
  refine lv_aload_n hx hb dX10_worth_0 rfl (lv_at hl 0 rfl) ?_
  refine lv_iconst (v := 0) hx hb dX10_worth_1 (by decide) ?_
  refine t_puti (x := 0) cf_11 hx hb hts hown hK hT hS h_a (k := 0) rfl trivial fl_X10_111 (fun _ h9 => h9) rfl rfl rfl dX10_worth_2 (fun H locs G_1 eG_1 hT hS => ?_)
  have hF := hF.wI eG_1 h_a rfl
  refine lv_aload_n hx hb dX10_worth_5 rfl (lv_at hl 0 rfl) ?_
  refine lv_iload_n hx hb dX10_worth_6 rfl (lv_at hl 1 rfl) ?_
  refine lv_iload_n hx hb dX10_worth_7 rfl (lv_at hl 2 rfl) ?_
  refine lv_iload_n hx hb dX10_worth_8 rfl (lv_at hl 3 rfl) ?_
  refine pu_calli (runV (As := [.int v0, .int v1, .int v2]) (rest := []) ⟨hx, hb, hml, hown, hts⟩ (t_X10_isStore l D cy base τ G_1 a h_a v0 v1 v2) sV_X10_375 hK (t_recv cf_11 hK hT h_a) ⟨Nat.le_trans hZ hS.1, hT⟩ ⟨Nat.le_of_ble_eq_true rfl, Nat.le_of_ble_eq_true rfl⟩ rfl hl.1 rfl (Nat.le_of_ble_eq_true rfl) dX10_worth_9 ⟨Nat.le_of_ble_eq_true rfl, Nat.le_of_ble_eq_true rfl⟩) (fun r_2 hr_2 => ?_)
  have hr_2_c := hr_2
  rcases hr_2_c with hr_2_0 | hr_2_1
  · skip
    obtain ⟨er_2, hr_2_0_f0, hr_2_0_f1, hr_2_0_f2, hr_2_0_f3, hr_2_0_f4, hr_2_0_f5⟩ := hr_2_0
    have hr_2_0_f0 : 0 ≤ v0.toInt := hr_2_0_f0
    have hr_2_0_f1 : v0.toInt ≤ 5 := hr_2_0_f1
    have hr_2_0_f2 : 0 ≤ v1.toInt := hr_2_0_f2
    have hr_2_0_f3 : v1.toInt ≤ 2 := hr_2_0_f3
    have hr_2_0_f4 : 0 ≤ v2.toInt := hr_2_0_f4
    have hr_2_0_f5 : v2.toInt ≤ 999 := hr_2_0_f5
    subst er_2
    refine W.eq (g2 := F0 m 12 ls [.int 1]) rfl ?_
    refine lv_if_eq (tgt := 22) hx hb dX10_worth_12 (by decide) (fun c_3 => absurd c_3 (by decide)) (fun _ => ?_)
    refine lv_iload_n hx hb dX10_worth_15 rfl (lv_at hl 3 rfl) ?_
    refine lv_sipush (v := 999) hx hb dX10_worth_16 (by decide) ?_
    refine lv_icmp_ne (tgt := 26) hx hb dX10_worth_19 (by decide) (fun c_4 => ?_) (fun c_4 => ?_)
    · skip
      have tc_4 : ¬ v2.toInt = 999 := fun h => c_4 ((fa_eq _ _).mpr h)
      refine lv_aload_n hx hb dX10_worth_26 rfl (lv_at hl 0 rfl) ?_
      refine lv_iload_n hx hb dX10_worth_27 rfl (lv_at hl 1 rfl) ?_
      refine t_callv (runV (As := [.int v0]) (rest := []) ⟨hx, hb, hml, hown, hts⟩ (t_X10_splits l D cy base τ G_1 a h_a v0 ⟨by omega, by omega⟩) sV_X10_302 hK (t_recv cf_11 hK hT h_a) ⟨Nat.le_trans hZ hS.1, hT⟩ ⟨Nat.le_of_ble_eq_true rfl, Nat.le_of_ble_eq_true rfl⟩ rfl hl.1 rfl (Nat.le_of_ble_eq_true rfl) dX10_worth_28 ⟨Nat.le_of_ble_eq_true rfl, Nat.le_of_ble_eq_true rfl⟩) hS (fun G_5 H locs hF_5 hr_5 hT hS => ?_)
      have hF := hF.tr hF_5 rfl
      refine lv_aload_n hx hb dX10_worth_31 rfl (lv_at hl 0 rfl) ?_
      refine lv_iload_n hx hb dX10_worth_32 rfl (lv_at hl 1 rfl) ?_
      refine lv_iload_n hx hb dX10_worth_33 rfl (lv_at hl 2 rfl) ?_
      refine lv_iload_n hx hb dX10_worth_34 rfl (lv_at hl 3 rfl) ?_
      refine pu_calll (runV (As := [.int v0, .int v1, .int v2]) (rest := []) ⟨hx, hb, hml, hown, hts⟩ (t_X10_costOf l D cy base τ G_5 a h_a v0 ⟨by omega, by omega⟩ v1 ⟨by omega, by omega⟩ v2) sV_X10_378 hK (t_recv cf_11 hK hT h_a) ⟨Nat.le_trans hZ hS.1, hT⟩ ⟨Nat.le_of_ble_eq_true rfl, Nat.le_of_ble_eq_true rfl⟩ rfl hl.1 rfl (Nat.le_of_ble_eq_true rfl) dX10_worth_35 ⟨Nat.le_of_ble_eq_true rfl, Nat.le_of_ble_eq_true rfl⟩) (fun r_6 hr_6 => ?_)
      refine lv_aload_n hx hb dX10_worth_38 rfl (lv_at hl 0 rfl) ?_
      refine lv_iload_n hx hb dX10_worth_39 rfl (lv_at hl 1 rfl) ?_
      refine lv_iload_n hx hb dX10_worth_40 rfl (lv_at hl 2 rfl) ?_
      refine lv_iload_n hx hb dX10_worth_41 rfl (lv_at hl 3 rfl) ?_
      refine lv_iconst (v := 1) hx hb dX10_worth_42 (by decide) ?_
      refine lv_iadd hx hb dX10_worth_43 ?_
      refine lv_topi (fun z_7 ez_7 => ?_)
      have tz_7 : z_7.toInt = v2.toInt + 1 := add_t ez_7 (show -2147483648 ≤ v2.toInt + 1 by omega) (show v2.toInt + 1 < 2147483648 by omega)
      refine pu_calll (runV (As := [.int v0, .int v1, .int z_7]) (rest := [.long r_6]) ⟨hx, hb, hml, hown, hts⟩ (t_X10_costOf l D cy base τ G_5 a h_a v0 ⟨by omega, by omega⟩ v1 ⟨by omega, by omega⟩ z_7) sV_X10_378 hK (t_recv cf_11 hK hT h_a) ⟨Nat.le_trans hZ hS.1, hT⟩ ⟨Nat.le_of_ble_eq_true rfl, Nat.le_of_ble_eq_true rfl⟩ rfl hl.1 rfl (Nat.le_of_ble_eq_true rfl) dX10_worth_44 ⟨Nat.le_of_ble_eq_true rfl, Nat.le_of_ble_eq_true rfl⟩) (fun r_8 hr_8 => ?_)
      refine lv_lsub hx hb dX10_worth_47 ?_
      refine lv_topl (fun z_9 ez_9 => ?_)
      refine lv_ldc2 (v := 1000000000) hx hb hown (hts _ kl_X10_345) dX10_worth_48 ?_
      refine lv_ldiv hx hb dX10_worth_51 (by decide) ?_
      refine lv_topl (fun z_10 ez_10 => ?_)
      exact ret_l hx hb hr hlocks ⟨⟨hS.1, hS.2.1⟩, G_5, hF, ⟨_, rfl, trivial⟩, hT⟩ hS.2.2 (Nat.le_of_ble_eq_true rfl) (Nat.le_of_ble_eq_true rfl) dX10_worth_52
    · skip
      have tc_4 : v2.toInt = 999 := (fa_eq _ _).mp c_4
      refine lv_ldc2 (v := (-1000000000000)) hx hb hown (hts _ kl_X10_381) dX10_worth_22 ?_
      exact ret_l hx hb hr hlocks ⟨⟨hS.1, hS.2.1⟩, G_1, hF, ⟨_, rfl, trivial⟩, hT⟩ hS.2.2 (Nat.le_of_ble_eq_true rfl) (Nat.le_of_ble_eq_true rfl) dX10_worth_25
  · skip
    have er_2 := hr_2_1
    subst er_2
    refine W.eq (g2 := F0 m 12 ls [.int 0]) rfl ?_
    refine lv_if_eq (tgt := 22) hx hb dX10_worth_12 (by decide) (fun _ => ?_) (fun c_11 => absurd (by decide) c_11)
    refine lv_ldc2 (v := (-1000000000000)) hx hb hown (hts _ kl_X10_381) dX10_worth_22 ?_
    exact ret_l hx hb hr hlocks ⟨⟨hS.1, hS.2.1⟩, G_1, hF, ⟨_, rfl, trivial⟩, hT⟩ hS.2.2 (Nat.le_of_ble_eq_true rfl) (Nat.le_of_ble_eq_true rfl) dX10_worth_25
set_option maxHeartbeats 4000000 in
set_option maxRecDepth 100000 in
theorem t_X10_bestOf (l : Launch) (D : va_G) (cy : Nat → ClassId) (base : Nat) (τ : Nat → Nat) (G : Gh) (a : Nat) (h_a : τ a = 11) (v : Int32) (r_v : 0 ≤ v.toInt ∧ v.toInt ≤ 5) (w : Int32) (r_w : 0 ≤ w.toInt ∧ w.toInt ≤ 2) : MM l yX10_bestOf cX10_bestOf 9 (some .int) 3 0 0 D cy [.ref a, .int v, .int w] (PT D cy base τ G) (PuI (fun r => 0 ≤ r.toInt ∧ r.toInt ≤ 999)) noF := by
  refine MM.of (by decide) (Nat.le_of_ble_eq_true rfl) ?_
  intro p e s m below meth c C hPT ls hl
  obtain ⟨hx, hb, hr, hml, hown, hts, hlocks, hK, hnm⟩ := C
  obtain ⟨hZ, hT⟩ := hPT
  have hS : va_S (RA base) s.heap s.heap [] := va_S.rf
  have hl : lv_has ls 9 [(0, .ref a), (1, .int v), (2, .int w)] := hl
  refine lv_iconst (v := 0) hx hb dX10_bestOf_0 (by decide) ?_
  refine lv_istore_n (lv' := [(3, .int 0), (0, .ref a), (1, .int v), (2, .int w)]) hx hb dX10_bestOf_1 rfl hl (by decide) rfl (fun ls hl => ?_)
  refine lv_aload_n hx hb dX10_bestOf_2 rfl (lv_at hl 1 rfl) ?_
  refine lv_iload_n hx hb dX10_bestOf_3 rfl (lv_at hl 2 rfl) ?_
  refine lv_iload_n hx hb dX10_bestOf_4 rfl (lv_at hl 3 rfl) ?_
  refine lv_iconst (v := 0) hx hb dX10_bestOf_5 (by decide) ?_
  refine pu_calll (runV (As := [.int v, .int w, .int 0]) (rest := []) ⟨hx, hb, hml, hown, hts⟩ (t_X10_costOf l D cy base τ G a h_a v ⟨by omega, by omega⟩ w ⟨by omega, by omega⟩ 0) sV_X10_378 hK (t_recv cf_11 hK hT h_a) ⟨Nat.le_trans hZ hS.1, hT⟩ ⟨Nat.le_of_ble_eq_true rfl, Nat.le_of_ble_eq_true rfl⟩ rfl hl.1 rfl (Nat.le_of_ble_eq_true rfl) dX10_bestOf_6 ⟨Nat.le_of_ble_eq_true rfl, Nat.le_of_ble_eq_true rfl⟩) (fun r_1 hr_1 => ?_)
  refine lv_lstore (lv' := [(4, .long r_1), (3, .int 0), (0, .ref a), (1, .int v), (2, .int w)]) hx hb dX10_bestOf_9 hl (by decide) rfl (fun ls hl => ?_)
  refine lv_iconst (v := 1) hx hb dX10_bestOf_11 (by decide) ?_
  refine lv_istore (lv' := [(6, .int 1), (4, .long r_1), (3, .int 0), (0, .ref a), (1, .int v), (2, .int w)]) hx hb dX10_bestOf_12 hl (by decide) rfl (fun ls hl => ?_)
  refine W.loop (σ := Int32 × Int64 × Int32) (fun w2 H locs ls => 0 ≤ w2.1.toInt ∧ w2.1.toInt ≤ 999 ∧ 1 ≤ w2.2.2.toInt ∧ w2.2.2.toInt ≤ 1000 ∧ H = s.heap ∧ locs = [] ∧ lv_has ls 9 [(3, .int w2.1), (4, .long w2.2.1), (6, .int w2.2.2), (0, .ref a), (1, .int v), (2, .int w)]) (fun w2 => (1000 - w2.2.2.toInt).toNat) ?_ ((0 : Int32), r_1, (1 : Int32)) _ _ _ ⟨(by show 0 ≤ (0 : Int32).toInt; decide), (by show (0 : Int32).toInt ≤ 999; decide), (by show 1 ≤ (1 : Int32).toInt; decide), (by show (1 : Int32).toInt ≤ 1000; decide), rfl, rfl, lv_sub hl [2, 1, 0, 3, 4, 5] rfl⟩
  intro w2 H locs ls hI ih2
  obtain ⟨x2_3, x2_4, x2_6⟩ := w2
  obtain ⟨i2_0, i2_1, i2_2, i2_3, rfl, rfl, hl⟩ := hI
  have i2_0 : 0 ≤ x2_3.toInt := i2_0
  have i2_1 : x2_3.toInt ≤ 999 := i2_1
  have i2_2 : 1 ≤ x2_6.toInt := i2_2
  have i2_3 : x2_6.toInt ≤ 1000 := i2_3
  have hl : lv_has ls 9 [(3, .int x2_3), (4, .long x2_4), (6, .int x2_6), (0, .ref a), (1, .int v), (2, .int w)] := hl
  refine lv_iload hx hb dX10_bestOf_14 (lv_at hl 2 rfl) ?_
  refine lv_sipush (v := 999) hx hb dX10_bestOf_16 (by decide) ?_
  refine lv_icmp_gt (tgt := 56) hx hb dX10_bestOf_19 (by decide) (fun c_3 => ?_) (fun c_3 => ?_)
  · skip
    have tc_3 : 999 < x2_6.toInt := (fa_lt _ _).mp c_3
    refine lv_iload_n hx hb dX10_bestOf_56 rfl (lv_at hl 0 rfl) ?_
    exact ret_i hx hb hr hlocks ⟨rfl, _, rfl, ⟨(by omega), (by omega)⟩⟩ (fun _ h => absurd h List.not_mem_nil) (Nat.le_refl _) (Nat.le_refl _) dX10_bestOf_57
  · skip
    have tc_3 : ¬ 999 < x2_6.toInt := fun h => c_3 ((fa_lt _ _).mpr h)
    refine lv_aload_n hx hb dX10_bestOf_22 rfl (lv_at hl 3 rfl) ?_
    refine lv_iload_n hx hb dX10_bestOf_23 rfl (lv_at hl 4 rfl) ?_
    refine lv_iload_n hx hb dX10_bestOf_24 rfl (lv_at hl 5 rfl) ?_
    refine lv_iload hx hb dX10_bestOf_25 (lv_at hl 2 rfl) ?_
    refine pu_calll (runV (As := [.int v, .int w, .int x2_6]) (rest := []) ⟨hx, hb, hml, hown, hts⟩ (t_X10_costOf l D cy base τ G a h_a v ⟨by omega, by omega⟩ w ⟨by omega, by omega⟩ x2_6) sV_X10_378 hK (t_recv cf_11 hK hT h_a) ⟨Nat.le_trans hZ hS.1, hT⟩ ⟨Nat.le_of_ble_eq_true rfl, Nat.le_of_ble_eq_true rfl⟩ rfl hl.1 rfl (Nat.le_of_ble_eq_true rfl) dX10_bestOf_27 ⟨Nat.le_of_ble_eq_true rfl, Nat.le_of_ble_eq_true rfl⟩) (fun r_4 hr_4 => ?_)
    refine lv_lstore (lv' := [(7, .long r_4), (3, .int x2_3), (4, .long x2_4), (6, .int x2_6), (0, .ref a), (1, .int v), (2, .int w)]) hx hb dX10_bestOf_30 hl (by decide) rfl (fun ls hl => ?_)
    refine lv_lload hx hb dX10_bestOf_32 (lv_at hl 0 rfl) ?_
    refine lv_lload hx hb dX10_bestOf_34 (lv_at hl 2 rfl) ?_
    refine W.lcmp hx hb dX10_bestOf_36 ?_
    refine lv_topi (fun z_5 ez_5 => ?_)
    have tz_5 : (z_5.toInt < 0 ↔ r_4.toInt < x2_4.toInt) ∧ (0 < z_5.toInt ↔ x2_4.toInt < r_4.toInt) ∧ -1 ≤ z_5.toInt ∧ z_5.toInt ≤ 1 := cmp_t ez_5
    refine lv_if_lt (tgt := 43) hx hb dX10_bestOf_37 (by decide) (fun c_6 => ?_) (fun c_6 => ?_)
    · skip
      have tc_6 : z_5.toInt < 0 := (fa_lt _ _).mp c_6
      refine lv_iload hx hb dX10_bestOf_43 (lv_at hl 3 rfl) ?_
      refine lv_istore_n (lv' := [(3, .int x2_6), (7, .long r_4), (4, .long x2_4), (6, .int x2_6), (0, .ref a), (1, .int v), (2, .int w)]) hx hb dX10_bestOf_45 rfl hl (by decide) rfl (fun ls hl => ?_)
      refine lv_lload hx hb dX10_bestOf_46 (lv_at hl 1 rfl) ?_
      refine lv_lstore (lv' := [(4, .long r_4), (3, .int x2_6), (7, .long r_4), (6, .int x2_6), (0, .ref a), (1, .int v), (2, .int w)]) hx hb dX10_bestOf_48 hl (by decide) rfl (fun ls hl => ?_)
      obtain ⟨z_7, ez_7⟩ : ∃ y : Int32, y = x2_6 + 1 := ⟨_, rfl⟩
      have tz_7 : z_7.toInt = x2_6.toInt + 1 := add_t ez_7 (show -2147483648 ≤ x2_6.toInt + 1 by omega) (show x2_6.toInt + 1 < 2147483648 by omega)
      refine lv_iinc (v := z_7) (lv' := [(6, .int z_7), (4, .long r_4), (3, .int x2_6), (7, .long r_4), (0, .ref a), (1, .int v), (2, .int w)]) hx hb dX10_bestOf_50 hl (k := 3) rfl (by rw [ez_7]; rfl) (by decide) rfl (fun ls hl => ?_)
      refine lv_goto (tgt := 14) hx hb dX10_bestOf_53 (by decide) ?_
      exact ih2 (x2_6, r_4, z_7) _ _ _ (by show (1000 - z_7.toInt).toNat < (1000 - x2_6.toInt).toNat; omega) ⟨(by show 0 ≤ x2_6.toInt; omega), (by show x2_6.toInt ≤ 999; omega), (by show 1 ≤ z_7.toInt; omega), (by show z_7.toInt ≤ 1000; omega), rfl, rfl, lv_sub hl [2, 1, 0, 4, 5, 6] rfl⟩
    · skip
      have tc_6 : ¬ z_5.toInt < 0 := fun h => c_6 ((fa_lt _ _).mpr h)
      refine lv_goto (tgt := 50) hx hb dX10_bestOf_40 (by decide) ?_
      obtain ⟨z_8, ez_8⟩ : ∃ y : Int32, y = x2_6 + 1 := ⟨_, rfl⟩
      have tz_8 : z_8.toInt = x2_6.toInt + 1 := add_t ez_8 (show -2147483648 ≤ x2_6.toInt + 1 by omega) (show x2_6.toInt + 1 < 2147483648 by omega)
      refine lv_iinc (v := z_8) (lv' := [(6, .int z_8), (7, .long r_4), (3, .int x2_3), (4, .long x2_4), (0, .ref a), (1, .int v), (2, .int w)]) hx hb dX10_bestOf_50 hl (k := 3) rfl (by rw [ez_8]; rfl) (by decide) rfl (fun ls hl => ?_)
      refine lv_goto (tgt := 14) hx hb dX10_bestOf_53 (by decide) ?_
      exact ih2 (x2_3, x2_4, z_8) _ _ _ (by show (1000 - z_8.toInt).toNat < (1000 - x2_6.toInt).toNat; omega) ⟨(by show 0 ≤ x2_3.toInt; omega), (by show x2_3.toInt ≤ 999; omega), (by show 1 ≤ z_8.toInt; omega), (by show z_8.toInt ≤ 1000; omega), rfl, rfl, lv_sub hl [2, 3, 0, 4, 5, 6] rfl⟩
set_option maxHeartbeats 4000000 in
set_option maxRecDepth 100000 in
theorem t_X10_best (l : Launch) (D : va_G) (cy : Nat → ClassId) (base : Nat) (τ : Nat → Nat) (G : Gh) (a : Nat) (h_a : τ a = 11) (v0 : Int32) (v1 : Int32) : MM l yX10_best cX10_best 3 (some .int) 4 0 0 D cy [.ref a, .int v0, .int v1] (PT D cy base τ G) (QT D cy base τ G [11, 79] (fun v g => ∃ r : Int32, v = some (.int r) ∧ (True))) (RA base) := by
  refine MM.of (by decide) (Nat.le_of_ble_eq_true rfl) ?_
  intro p e s m below meth c C hPT ls hl
  obtain ⟨hx, hb, hr, hml, hown, hts, hlocks, hK, hnm⟩ := C
  obtain ⟨hZ, hT⟩ := hPT
  have hS : va_S (RA base) s.heap s.heap [] := va_S.rf
  have hF : Fr τ [11, 79] G G := Fr.rf
  have hl : lv_has ls 3 [(0, .ref a), (1, .int v0), (2, .int v1)] := hl
  refine lv_aload_n hx hb dX10_best_0 rfl (lv_at hl 0 rfl) ?_
  refine lv_iconst (v := 0) hx hb dX10_best_1 (by decide) ?_
  refine t_puti (x := 0) cf_11 hx hb hts hown hK hT hS h_a (k := 0) rfl trivial fl_X10_111 (fun _ h9 => h9) rfl rfl rfl dX10_best_2 (fun H locs G_1 eG_1 hT hS => ?_)
  have hF := hF.wI eG_1 h_a rfl
  refine lv_aload_n hx hb dX10_best_5 rfl (lv_at hl 0 rfl) ?_
  refine lv_iload_n hx hb dX10_best_6 rfl (lv_at hl 1 rfl) ?_
  refine lv_iload_n hx hb dX10_best_7 rfl (lv_at hl 2 rfl) ?_
  refine lv_iconst (v := 0) hx hb dX10_best_8 (by decide) ?_
  refine pu_calli (runV (As := [.int v0, .int v1, .int 0]) (rest := []) ⟨hx, hb, hml, hown, hts⟩ (t_X10_isStore l D cy base τ G_1 a h_a v0 v1 0) sV_X10_375 hK (t_recv cf_11 hK hT h_a) ⟨Nat.le_trans hZ hS.1, hT⟩ ⟨Nat.le_of_ble_eq_true rfl, Nat.le_of_ble_eq_true rfl⟩ rfl hl.1 rfl (Nat.le_of_ble_eq_true rfl) dX10_best_9 ⟨Nat.le_of_ble_eq_true rfl, Nat.le_of_ble_eq_true rfl⟩) (fun r_2 hr_2 => ?_)
  have hr_2_c := hr_2
  rcases hr_2_c with hr_2_0 | hr_2_1
  · skip
    obtain ⟨er_2, hr_2_0_f0, hr_2_0_f1, hr_2_0_f2, hr_2_0_f3, hr_2_0_f4, hr_2_0_f5⟩ := hr_2_0
    have hr_2_0_f0 : 0 ≤ v0.toInt := hr_2_0_f0
    have hr_2_0_f1 : v0.toInt ≤ 5 := hr_2_0_f1
    have hr_2_0_f2 : 0 ≤ v1.toInt := hr_2_0_f2
    have hr_2_0_f3 : v1.toInt ≤ 2 := hr_2_0_f3
    subst er_2
    refine W.eq (g2 := F0 m 12 ls [.int 1]) rfl ?_
    refine lv_if_ne (tgt := 18) hx hb dX10_best_12 (by decide) (fun _ => ?_) (fun c_3 => absurd c_3 (by decide))
    refine lv_aload_n hx hb dX10_best_18 rfl (lv_at hl 0 rfl) ?_
    refine lv_iload_n hx hb dX10_best_19 rfl (lv_at hl 1 rfl) ?_
    refine t_callv (runV (As := [.int v0]) (rest := []) ⟨hx, hb, hml, hown, hts⟩ (t_X10_splits l D cy base τ G_1 a h_a v0 ⟨by omega, by omega⟩) sV_X10_302 hK (t_recv cf_11 hK hT h_a) ⟨Nat.le_trans hZ hS.1, hT⟩ ⟨Nat.le_of_ble_eq_true rfl, Nat.le_of_ble_eq_true rfl⟩ rfl hl.1 rfl (Nat.le_of_ble_eq_true rfl) dX10_best_20 ⟨Nat.le_of_ble_eq_true rfl, Nat.le_of_ble_eq_true rfl⟩) hS (fun G_4 H locs hF_4 hr_4 hT hS => ?_)
    have hF := hF.tr hF_4 rfl
    refine lv_aload_n hx hb dX10_best_23 rfl (lv_at hl 0 rfl) ?_
    refine lv_iload_n hx hb dX10_best_24 rfl (lv_at hl 1 rfl) ?_
    refine lv_iload_n hx hb dX10_best_25 rfl (lv_at hl 2 rfl) ?_
    refine pu_calli (runV (As := [.int v0, .int v1]) (rest := []) ⟨hx, hb, hml, hown, hts⟩ (t_X10_bestOf l D cy base τ G_4 a h_a v0 ⟨by omega, by omega⟩ v1 ⟨by omega, by omega⟩) sV_X10_383 hK (t_recv cf_11 hK hT h_a) ⟨Nat.le_trans hZ hS.1, hT⟩ ⟨Nat.le_of_ble_eq_true rfl, Nat.le_of_ble_eq_true rfl⟩ rfl hl.1 rfl (Nat.le_of_ble_eq_true rfl) dX10_best_26 ⟨Nat.le_of_ble_eq_true rfl, Nat.le_of_ble_eq_true rfl⟩) (fun r_5 hr_5 => ?_)
    obtain ⟨hr_5_lo, hr_5_hi⟩ := hr_5
    have hr_5_lo : 0 ≤ r_5.toInt := hr_5_lo
    have hr_5_hi : r_5.toInt ≤ 999 := hr_5_hi
    exact ret_i hx hb hr hlocks ⟨⟨hS.1, hS.2.1⟩, G_4, hF, ⟨_, rfl, trivial⟩, hT⟩ hS.2.2 (Nat.le_of_ble_eq_true rfl) (Nat.le_of_ble_eq_true rfl) dX10_best_29
  · skip
    have er_2 := hr_2_1
    subst er_2
    refine W.eq (g2 := F0 m 12 ls [.int 0]) rfl ?_
    refine lv_if_ne (tgt := 18) hx hb dX10_best_12 (by decide) (fun c_6 => absurd rfl c_6) (fun _ => ?_)
    refine lv_bipush (v := (-2)) hx hb dX10_best_15 (by decide) ?_
    exact ret_i hx hb hr hlocks ⟨⟨hS.1, hS.2.1⟩, G_1, hF, ⟨_, rfl, trivial⟩, hT⟩ hS.2.2 (Nat.le_of_ble_eq_true rfl) (Nat.le_of_ble_eq_true rfl) dX10_best_17
set_option maxHeartbeats 4000000 in
set_option maxRecDepth 100000 in
theorem t_X10_lacking (l : Launch) (D : va_G) (cy : Nat → ClassId) (base : Nat) (τ : Nat → Nat) (G : Gh) (a : Nat) (h_a : τ a = 11) (v : Int32) (r_v : 0 ≤ v.toInt ∧ v.toInt ≤ 5) (w : Int32) (r_w : 0 ≤ w.toInt ∧ w.toInt ≤ 2) (z : Int32) : MM l yX10_lacking cX10_lacking 7 (some .long) 2 0 0 D cy [.ref a, .int v, .int w, .int z] (PT D cy base τ G) (PuL (fun r => True)) noF := by
  refine MM.of (by decide) (Nat.le_of_ble_eq_true rfl) ?_
  intro p e s m below meth c C hPT ls hl
  obtain ⟨hx, hb, hr, hml, hown, hts, hlocks, hK, hnm⟩ := C
  obtain ⟨hZ, hT⟩ := hPT
  have hS : va_S (RA base) s.heap s.heap [] := va_S.rf
  have hl : lv_has ls 7 [(0, .ref a), (1, .int v), (2, .int w), (3, .int z)] := hl
  refine lv_lconst (v := 0) hx hb dX10_lacking_0 (by decide) ?_
  refine lv_lstore (lv' := [(4, .long 0), (0, .ref a), (1, .int v), (2, .int w), (3, .int z)]) hx hb dX10_lacking_1 hl (by decide) rfl (fun ls hl => ?_)
  refine lv_iconst (v := 0) hx hb dX10_lacking_3 (by decide) ?_
  refine lv_istore (lv' := [(6, .int 0), (4, .long 0), (0, .ref a), (1, .int v), (2, .int w), (3, .int z)]) hx hb dX10_lacking_4 hl (by decide) rfl (fun ls hl => ?_)
  refine W.loop (σ := Int64 × Int32) (fun w1 H locs ls => 0 ≤ w1.2.toInt ∧ w1.2.toInt ≤ 61 ∧ H = s.heap ∧ locs = [] ∧ lv_has ls 7 [(4, .long w1.1), (6, .int w1.2), (0, .ref a), (1, .int v), (2, .int w), (3, .int z)]) (fun w1 => (61 - w1.2.toInt).toNat) ?_ ((0 : Int64), (0 : Int32)) _ _ _ ⟨(by show 0 ≤ (0 : Int32).toInt; decide), (by show (0 : Int32).toInt ≤ 61; decide), rfl, rfl, lv_sub hl [1, 0, 2, 3, 4, 5] rfl⟩
  intro w1 H locs ls hI ih1
  obtain ⟨x1_4, x1_6⟩ := w1
  obtain ⟨i1_0, i1_1, rfl, rfl, hl⟩ := hI
  have i1_0 : 0 ≤ x1_6.toInt := i1_0
  have i1_1 : x1_6.toInt ≤ 61 := i1_1
  have hl : lv_has ls 7 [(4, .long x1_4), (6, .int x1_6), (0, .ref a), (1, .int v), (2, .int w), (3, .int z)] := hl
  refine lv_iload hx hb dX10_lacking_6 (lv_at hl 1 rfl) ?_
  refine lv_aload_n hx hb dX10_lacking_8 rfl (lv_at hl 2 rfl) ?_
  obtain ⟨q_2, eq_2, hq_2⟩ := (show ∃ q, G.2.2.1 a 17 = some q ∧ τ q = 67 from hT.rgr h_a (by decide) 17)
  obtain ⟨z_3, ez_3⟩ : ∃ y : Int32, y = G.1 q_2 0 := ⟨_, rfl⟩
  have qz_3 : (0 % 4 = 0 → 0 ≤ z_3.toInt ∧ z_3.toInt ≤ 60) := by rw [ez_3]; exact hT.rgi hq_2 (by decide) 0
  have rz_3 : 0 ≤ z_3.toInt ∧ z_3.toInt ≤ 60 := by omega
  refine pu_calli (runV (As := []) (rest := [.int x1_6]) ⟨hx, hb, hml, hown, hts⟩ (t_X10_lastDay l D cy base τ G a h_a q_2 hq_2 eq_2 z_3 ez_3 ⟨by omega, by omega⟩) sV_X10_278 hK (t_recv cf_11 hK hT h_a) ⟨Nat.le_trans hZ hS.1, hT⟩ ⟨Nat.le_of_ble_eq_true rfl, Nat.le_of_ble_eq_true rfl⟩ rfl hl.1 rfl (Nat.le_of_ble_eq_true rfl) dX10_lacking_9 ⟨Nat.le_of_ble_eq_true rfl, Nat.le_of_ble_eq_true rfl⟩) (fun r_4 hr_4 => ?_)
  have er_4 := hr_4
  have er_4 := er_4.symm
  subst er_4
  refine W.eq (g2 := F0 m 12 ls [.int z_3, .int x1_6]) rfl ?_
  refine lv_icmp_gt (tgt := 49) hx hb dX10_lacking_12 (by decide) (fun c_5 => ?_) (fun c_5 => ?_)
  · skip
    have tc_5 : z_3.toInt < x1_6.toInt := (fa_lt _ _).mp c_5
    refine lv_lload hx hb dX10_lacking_49 (lv_at hl 0 rfl) ?_
    exact ret_l hx hb hr hlocks ⟨rfl, _, rfl, trivial⟩ (fun _ h => absurd h List.not_mem_nil) (Nat.le_refl _) (Nat.le_refl _) dX10_lacking_51
  · skip
    have tc_5 : ¬ z_3.toInt < x1_6.toInt := fun h => c_5 ((fa_lt _ _).mpr h)
    refine lv_lload hx hb dX10_lacking_15 (lv_at hl 0 rfl) ?_
    refine lv_aload_n hx hb dX10_lacking_17 rfl (lv_at hl 2 rfl) ?_
    refine lv_iload_n hx hb dX10_lacking_18 rfl (lv_at hl 3 rfl) ?_
    refine lv_iload_n hx hb dX10_lacking_19 rfl (lv_at hl 4 rfl) ?_
    refine lv_iload hx hb dX10_lacking_20 (lv_at hl 1 rfl) ?_
    refine pu_calli (runV (As := [.int v, .int w, .int x1_6]) (rest := [.long x1_4]) ⟨hx, hb, hml, hown, hts⟩ (t_X10_wantsOf l D cy base τ G a h_a v ⟨by omega, by omega⟩ w ⟨by omega, by omega⟩ x1_6) sV_X10_353 hK (t_recv cf_11 hK hT h_a) ⟨Nat.le_trans hZ hS.1, hT⟩ ⟨Nat.le_of_ble_eq_true rfl, Nat.le_of_ble_eq_true rfl⟩ rfl hl.1 rfl (Nat.le_of_ble_eq_true rfl) dX10_lacking_22 ⟨Nat.le_of_ble_eq_true rfl, Nat.le_of_ble_eq_true rfl⟩) (fun r_6 hr_6 => ?_)
    refine lv_iload_n hx hb dX10_lacking_25 rfl (lv_at hl 5 rfl) ?_
    refine lv_icmp_le (tgt := 39) hx hb dX10_lacking_26 (by decide) (fun c_7 => ?_) (fun c_7 => ?_)
    · skip
      have tc_7 : r_6.toInt ≤ z.toInt := (fa_le _ _).mp c_7
      refine lv_lconst (v := 0) hx hb dX10_lacking_39 (by decide) ?_
      refine lv_ladd hx hb dX10_lacking_40 ?_
      refine lv_topl (fun z_8 ez_8 => ?_)
      refine lv_lstore (lv' := [(4, .long z_8), (6, .int x1_6), (0, .ref a), (1, .int v), (2, .int w), (3, .int z)]) hx hb dX10_lacking_41 hl (by decide) rfl (fun ls hl => ?_)
      obtain ⟨z_9, ez_9⟩ : ∃ y : Int32, y = x1_6 + 1 := ⟨_, rfl⟩
      have tz_9 : z_9.toInt = x1_6.toInt + 1 := add_t ez_9 (show -2147483648 ≤ x1_6.toInt + 1 by omega) (show x1_6.toInt + 1 < 2147483648 by omega)
      refine lv_iinc (v := z_9) (lv' := [(6, .int z_9), (4, .long z_8), (0, .ref a), (1, .int v), (2, .int w), (3, .int z)]) hx hb dX10_lacking_43 hl (k := 1) rfl (by rw [ez_9]; rfl) (by decide) rfl (fun ls hl => ?_)
      refine lv_goto (tgt := 6) hx hb dX10_lacking_46 (by decide) ?_
      exact ih1 (z_8, z_9) _ _ _ (by show (61 - z_9.toInt).toNat < (61 - x1_6.toInt).toNat; omega) ⟨(by show 0 ≤ z_9.toInt; omega), (by show z_9.toInt ≤ 61; omega), rfl, rfl, lv_sub hl [1, 0, 2, 3, 4, 5] rfl⟩
    · skip
      have tc_7 : ¬ r_6.toInt ≤ z.toInt := fun h => c_7 ((fa_le _ _).mpr h)
      have mc_7 : r_6.toInt ≤ 2147483647 := max_t r_6
      refine lv_aload_n hx hb dX10_lacking_29 rfl (lv_at hl 2 rfl) ?_
      refine t_getr cf_11 hx hb hts hown hK hT h_a (k := 29) (P := fun q => τ q = 79) rfl (fun _ h9 => h9) fl_X10_71 (fun _ h9 => h9) dX10_lacking_30 (fun q_10 eq_10 hq_10 => ?_)
      refine lv_iload hx hb dX10_lacking_33 (lv_at hl 1 rfl) ?_
      refine t_lald (n := 61) (i := x1_6) rfl (by decide) hx hb hK hT hq_10 (hT.len hq_10 (by decide)) ⟨by omega, by omega⟩ dX10_lacking_35 (fun z_11 ez_11 => ?_)
      refine lv_goto (tgt := 40) hx hb dX10_lacking_36 (by decide) ?_
      refine lv_ladd hx hb dX10_lacking_40 ?_
      refine lv_topl (fun z_12 ez_12 => ?_)
      refine lv_lstore (lv' := [(4, .long z_12), (6, .int x1_6), (0, .ref a), (1, .int v), (2, .int w), (3, .int z)]) hx hb dX10_lacking_41 hl (by decide) rfl (fun ls hl => ?_)
      obtain ⟨z_13, ez_13⟩ : ∃ y : Int32, y = x1_6 + 1 := ⟨_, rfl⟩
      have tz_13 : z_13.toInt = x1_6.toInt + 1 := add_t ez_13 (show -2147483648 ≤ x1_6.toInt + 1 by omega) (show x1_6.toInt + 1 < 2147483648 by omega)
      refine lv_iinc (v := z_13) (lv' := [(6, .int z_13), (4, .long z_12), (0, .ref a), (1, .int v), (2, .int w), (3, .int z)]) hx hb dX10_lacking_43 hl (k := 1) rfl (by rw [ez_13]; rfl) (by decide) rfl (fun ls hl => ?_)
      refine lv_goto (tgt := 6) hx hb dX10_lacking_46 (by decide) ?_
      exact ih1 (z_12, z_13) _ _ _ (by show (61 - z_13.toInt).toNat < (61 - x1_6.toInt).toNat; omega) ⟨(by show 0 ≤ z_13.toInt; omega), (by show z_13.toInt ≤ 61; omega), rfl, rfl, lv_sub hl [1, 0, 2, 3, 4, 5] rfl⟩
set_option maxHeartbeats 4000000 in
set_option maxRecDepth 100000 in
theorem t_X10_sure (l : Launch) (D : va_G) (cy : Nat → ClassId) (base : Nat) (τ : Nat → Nat) (G : Gh) (a : Nat) (h_a : τ a = 11) (v0 : Int32) (v1 : Int32) (v2 : Int32) : MM l yX10_sure cX10_sure 4 (some .long) 3 0 0 D cy [.ref a, .int v0, .int v1, .int v2] (PT D cy base τ G) (QT D cy base τ G [11, 79] (fun v g => ∃ r : Int64, v = some (.long r) ∧ (True))) (RA base) := by
  refine MM.of (by decide) (Nat.le_of_ble_eq_true rfl) ?_
  intro p e s m below meth c C hPT ls hl
  obtain ⟨hx, hb, hr, hml, hown, hts, hlocks, hK, hnm⟩ := C
  obtain ⟨hZ, hT⟩ := hPT
  have hS : va_S (RA base) s.heap s.heap [] := va_S.rf
  have hF : Fr τ [11, 79] G G := Fr.rf
  have hl : lv_has ls 4 [(0, .ref a), (1, .int v0), (2, .int v1), (3, .int v2)] := hl
  refine lv_aload_n hx hb dX10_sure_0 rfl (lv_at hl 0 rfl) ?_
  refine lv_iconst (v := 0) hx hb dX10_sure_1 (by decide) ?_
  refine t_puti (x := 0) cf_11 hx hb hts hown hK hT hS h_a (k := 0) rfl trivial fl_X10_111 (fun _ h9 => h9) rfl rfl rfl dX10_sure_2 (fun H locs G_1 eG_1 hT hS => ?_)
  have hF := hF.wI eG_1 h_a rfl
  refine lv_aload_n hx hb dX10_sure_5 rfl (lv_at hl 0 rfl) ?_
  refine lv_iload_n hx hb dX10_sure_6 rfl (lv_at hl 1 rfl) ?_
  refine lv_iload_n hx hb dX10_sure_7 rfl (lv_at hl 2 rfl) ?_
  refine lv_iload_n hx hb dX10_sure_8 rfl (lv_at hl 3 rfl) ?_
  refine pu_calli (runV (As := [.int v0, .int v1, .int v2]) (rest := []) ⟨hx, hb, hml, hown, hts⟩ (t_X10_isStore l D cy base τ G_1 a h_a v0 v1 v2) sV_X10_375 hK (t_recv cf_11 hK hT h_a) ⟨Nat.le_trans hZ hS.1, hT⟩ ⟨Nat.le_of_ble_eq_true rfl, Nat.le_of_ble_eq_true rfl⟩ rfl hl.1 rfl (Nat.le_of_ble_eq_true rfl) dX10_sure_9 ⟨Nat.le_of_ble_eq_true rfl, Nat.le_of_ble_eq_true rfl⟩) (fun r_2 hr_2 => ?_)
  have hr_2_c := hr_2
  rcases hr_2_c with hr_2_0 | hr_2_1
  · skip
    obtain ⟨er_2, hr_2_0_f0, hr_2_0_f1, hr_2_0_f2, hr_2_0_f3, hr_2_0_f4, hr_2_0_f5⟩ := hr_2_0
    have hr_2_0_f0 : 0 ≤ v0.toInt := hr_2_0_f0
    have hr_2_0_f1 : v0.toInt ≤ 5 := hr_2_0_f1
    have hr_2_0_f2 : 0 ≤ v1.toInt := hr_2_0_f2
    have hr_2_0_f3 : v1.toInt ≤ 2 := hr_2_0_f3
    have hr_2_0_f4 : 0 ≤ v2.toInt := hr_2_0_f4
    have hr_2_0_f5 : v2.toInt ≤ 999 := hr_2_0_f5
    subst er_2
    refine W.eq (g2 := F0 m 12 ls [.int 1]) rfl ?_
    refine lv_if_ne (tgt := 19) hx hb dX10_sure_12 (by decide) (fun _ => ?_) (fun c_3 => absurd c_3 (by decide))
    refine lv_aload_n hx hb dX10_sure_19 rfl (lv_at hl 0 rfl) ?_
    refine lv_iload_n hx hb dX10_sure_20 rfl (lv_at hl 1 rfl) ?_
    refine t_callv (runV (As := [.int v0]) (rest := []) ⟨hx, hb, hml, hown, hts⟩ (t_X10_splits l D cy base τ G_1 a h_a v0 ⟨by omega, by omega⟩) sV_X10_302 hK (t_recv cf_11 hK hT h_a) ⟨Nat.le_trans hZ hS.1, hT⟩ ⟨Nat.le_of_ble_eq_true rfl, Nat.le_of_ble_eq_true rfl⟩ rfl hl.1 rfl (Nat.le_of_ble_eq_true rfl) dX10_sure_21 ⟨Nat.le_of_ble_eq_true rfl, Nat.le_of_ble_eq_true rfl⟩) hS (fun G_4 H locs hF_4 hr_4 hT hS => ?_)
    have hF := hF.tr hF_4 rfl
    refine lv_ldc2 (v := 1000000000000) hx hb hown (hts _ kl_X10_284) dX10_sure_24 ?_
    refine lv_aload_n hx hb dX10_sure_27 rfl (lv_at hl 0 rfl) ?_
    refine lv_iload_n hx hb dX10_sure_28 rfl (lv_at hl 1 rfl) ?_
    refine lv_iload_n hx hb dX10_sure_29 rfl (lv_at hl 2 rfl) ?_
    refine lv_iload_n hx hb dX10_sure_30 rfl (lv_at hl 3 rfl) ?_
    refine pu_calll (runV (As := [.int v0, .int v1, .int v2]) (rest := [.long 1000000000000]) ⟨hx, hb, hml, hown, hts⟩ (t_X10_lacking l D cy base τ G_4 a h_a v0 ⟨by omega, by omega⟩ v1 ⟨by omega, by omega⟩ v2) sV_X10_386 hK (t_recv cf_11 hK hT h_a) ⟨Nat.le_trans hZ hS.1, hT⟩ ⟨Nat.le_of_ble_eq_true rfl, Nat.le_of_ble_eq_true rfl⟩ rfl hl.1 rfl (Nat.le_of_ble_eq_true rfl) dX10_sure_31 ⟨Nat.le_of_ble_eq_true rfl, Nat.le_of_ble_eq_true rfl⟩) (fun r_5 hr_5 => ?_)
    refine lv_lsub hx hb dX10_sure_34 ?_
    refine lv_topl (fun z_6 ez_6 => ?_)
    exact ret_l hx hb hr hlocks ⟨⟨hS.1, hS.2.1⟩, G_4, hF, ⟨_, rfl, trivial⟩, hT⟩ hS.2.2 (Nat.le_of_ble_eq_true rfl) (Nat.le_of_ble_eq_true rfl) dX10_sure_35
  · skip
    have er_2 := hr_2_1
    subst er_2
    refine W.eq (g2 := F0 m 12 ls [.int 0]) rfl ?_
    refine lv_if_ne (tgt := 19) hx hb dX10_sure_12 (by decide) (fun c_7 => absurd rfl c_7) (fun _ => ?_)
    refine lv_ldc2 (v := (-2)) hx hb hown (hts _ kl_X10_300) dX10_sure_15 ?_
    exact ret_l hx hb hr hlocks ⟨⟨hS.1, hS.2.1⟩, G_1, hF, ⟨_, rfl, trivial⟩, hT⟩ hS.2.2 (Nat.le_of_ble_eq_true rfl) (Nat.le_of_ble_eq_true rfl) dX10_sure_18
set_option maxHeartbeats 4000000 in
set_option maxRecDepth 100000 in
theorem t_X10_need (l : Launch) (D : va_G) (cy : Nat → ClassId) (base : Nat) (τ : Nat → Nat) (G : Gh) (a : Nat) (h_a : τ a = 11) (v0 : Int32) (v1 : Int32) (v2 : Int32) : MM l yX10_need cX10_need 5 (some .int) 3 0 0 D cy [.ref a, .int v0, .int v1, .int v2] (PT D cy base τ G) (QT D cy base τ G [11, 79] (fun v g => ∃ r : Int32, v = some (.int r) ∧ (True))) (RA base) := by
  refine MM.of (by decide) (Nat.le_of_ble_eq_true rfl) ?_
  intro p e s m below meth c C hPT ls hl
  obtain ⟨hx, hb, hr, hml, hown, hts, hlocks, hK, hnm⟩ := C
  obtain ⟨hZ, hT⟩ := hPT
  have hS : va_S (RA base) s.heap s.heap [] := va_S.rf
  have hF : Fr τ [11, 79] G G := Fr.rf
  have hl : lv_has ls 5 [(0, .ref a), (1, .int v0), (2, .int v1), (3, .int v2)] := hl
  refine lv_aload_n hx hb dX10_need_0 rfl (lv_at hl 0 rfl) ?_
  refine lv_iconst (v := 0) hx hb dX10_need_1 (by decide) ?_
  refine t_puti (x := 0) cf_11 hx hb hts hown hK hT hS h_a (k := 0) rfl trivial fl_X10_111 (fun _ h9 => h9) rfl rfl rfl dX10_need_2 (fun H locs G_1 eG_1 hT hS => ?_)
  have hF := hF.wI eG_1 h_a rfl
  refine lv_aload_n hx hb dX10_need_5 rfl (lv_at hl 0 rfl) ?_
  refine lv_iload_n hx hb dX10_need_6 rfl (lv_at hl 1 rfl) ?_
  refine lv_iload_n hx hb dX10_need_7 rfl (lv_at hl 2 rfl) ?_
  refine lv_iconst (v := 0) hx hb dX10_need_8 (by decide) ?_
  refine pu_calli (runV (As := [.int v0, .int v1, .int 0]) (rest := []) ⟨hx, hb, hml, hown, hts⟩ (t_X10_isStore l D cy base τ G_1 a h_a v0 v1 0) sV_X10_375 hK (t_recv cf_11 hK hT h_a) ⟨Nat.le_trans hZ hS.1, hT⟩ ⟨Nat.le_of_ble_eq_true rfl, Nat.le_of_ble_eq_true rfl⟩ rfl hl.1 rfl (Nat.le_of_ble_eq_true rfl) dX10_need_9 ⟨Nat.le_of_ble_eq_true rfl, Nat.le_of_ble_eq_true rfl⟩) (fun r_2 hr_2 => ?_)
  have hr_2_c := hr_2
  rcases hr_2_c with hr_2_0 | hr_2_1
  · skip
    obtain ⟨er_2, hr_2_0_f0, hr_2_0_f1, hr_2_0_f2, hr_2_0_f3, hr_2_0_f4, hr_2_0_f5⟩ := hr_2_0
    have hr_2_0_f0 : 0 ≤ v0.toInt := hr_2_0_f0
    have hr_2_0_f1 : v0.toInt ≤ 5 := hr_2_0_f1
    have hr_2_0_f2 : 0 ≤ v1.toInt := hr_2_0_f2
    have hr_2_0_f3 : v1.toInt ≤ 2 := hr_2_0_f3
    subst er_2
    refine W.eq (g2 := F0 m 12 ls [.int 1]) rfl ?_
    refine lv_if_eq (tgt := 27) hx hb dX10_need_12 (by decide) (fun c_3 => absurd c_3 (by decide)) (fun _ => ?_)
    refine lv_iload_n hx hb dX10_need_15 rfl (lv_at hl 3 rfl) ?_
    refine lv_i2l hx hb dX10_need_16 rfl ?_
    refine lv_topl (fun z_4 ez_4 => ?_)
    have tz_4 : z_4.toInt = v2.toInt := by rw [ez_4]; exact wide_t v2
    have az_4 := min_t v2
    have bz_4 := max_t v2
    refine lv_lconst (v := 0) hx hb dX10_need_17 (by decide) ?_
    refine lv_ldc2 (v := 1000) hx hb hown (hts _ kl_X10_343) dX10_need_18 ?_
    refine pu_calli (runS (As := [.long z_4, .long 0, .long 1000]) (rest := []) ⟨hx, hb, hml, hown, hts⟩ (t_X10_in l D cy base τ G_1 z_4 0 1000) sS_X10_116 hK ⟨Nat.le_trans hZ hS.1, hT⟩ ⟨Nat.le_of_ble_eq_true rfl, Nat.le_of_ble_eq_true rfl⟩ rfl hl.1 rfl (Nat.le_of_ble_eq_true rfl) dX10_need_21 ⟨Nat.le_of_ble_eq_true rfl, Nat.le_of_ble_eq_true rfl⟩) (fun r_5 hr_5 => ?_)
    have hr_5_c := hr_5
    rcases hr_5_c with hr_5_0 | hr_5_1
    · skip
      obtain ⟨er_5, hr_5_0_f0, hr_5_0_f1⟩ := hr_5_0
      have hr_5_0_f0 : 0 ≤ z_4.toInt := hr_5_0_f0
      have hr_5_0_f1 : z_4.toInt ≤ 1000 := hr_5_0_f1
      subst er_5
      refine W.eq (g2 := F0 m 24 ls [.int 1]) rfl ?_
      refine lv_if_ne (tgt := 30) hx hb dX10_need_24 (by decide) (fun _ => ?_) (fun c_6 => absurd c_6 (by decide))
      refine lv_aload_n hx hb dX10_need_30 rfl (lv_at hl 0 rfl) ?_
      refine lv_iload_n hx hb dX10_need_31 rfl (lv_at hl 1 rfl) ?_
      refine t_callv (runV (As := [.int v0]) (rest := []) ⟨hx, hb, hml, hown, hts⟩ (t_X10_splits l D cy base τ G_1 a h_a v0 ⟨by omega, by omega⟩) sV_X10_302 hK (t_recv cf_11 hK hT h_a) ⟨Nat.le_trans hZ hS.1, hT⟩ ⟨Nat.le_of_ble_eq_true rfl, Nat.le_of_ble_eq_true rfl⟩ rfl hl.1 rfl (Nat.le_of_ble_eq_true rfl) dX10_need_32 ⟨Nat.le_of_ble_eq_true rfl, Nat.le_of_ble_eq_true rfl⟩) hS (fun G_7 H locs hF_7 hr_7 hT hS => ?_)
      have hF := hF.tr hF_7 rfl
      refine lv_iconst (v := 0) hx hb dX10_need_35 (by decide) ?_
      refine lv_istore (lv' := [(4, .int 0), (0, .ref a), (1, .int v0), (2, .int v1), (3, .int v2)]) hx hb dX10_need_36 hl (by decide) rfl (fun ls hl => ?_)
      refine W.loop (σ := Int32 × Gh) (fun w8 H locs ls => 0 ≤ w8.1.toInt ∧ w8.1.toInt ≤ 1000 ∧ Fr τ [11, 79] G w8.2 ∧ TY D cy base τ w8.2 H ∧ va_S (RA base) s.heap H locs ∧ lv_has ls 5 [(4, .int w8.1), (0, .ref a), (1, .int v0), (2, .int v1), (3, .int v2)]) (fun w8 => (1000 - w8.1.toInt).toNat) ?_ ((0 : Int32), G_7) _ _ _ ⟨(by show 0 ≤ (0 : Int32).toInt; decide), (by show (0 : Int32).toInt ≤ 1000; decide), hF, hT, hS, lv_sub hl [0, 1, 2, 3, 4] rfl⟩
      intro w8 H locs ls hI ih8
      obtain ⟨x8_4, G_8⟩ := w8
      obtain ⟨i8_0, i8_1, hF, hT, hS, hl⟩ := hI
      have i8_0 : 0 ≤ x8_4.toInt := i8_0
      have i8_1 : x8_4.toInt ≤ 1000 := i8_1
      have hF : Fr τ [11, 79] G G_8 := hF
      have hT : TY D cy base τ G_8 H := hT
      have hS : va_S (RA base) s.heap H locs := hS
      have hl : lv_has ls 5 [(4, .int x8_4), (0, .ref a), (1, .int v0), (2, .int v1), (3, .int v2)] := hl
      refine lv_iload hx hb dX10_need_38 (lv_at hl 0 rfl) ?_
      refine lv_sipush (v := 999) hx hb dX10_need_40 (by decide) ?_
      refine lv_icmp_gt (tgt := 73) hx hb dX10_need_43 (by decide) (fun c_9 => ?_) (fun c_9 => ?_)
      · skip
        have tc_9 : 999 < x8_4.toInt := (fa_lt _ _).mp c_9
        refine lv_iconst (v := (-1)) hx hb dX10_need_73 (by decide) ?_
        exact ret_i hx hb hr hlocks ⟨⟨hS.1, hS.2.1⟩, G_8, hF, ⟨_, rfl, trivial⟩, hT⟩ hS.2.2 (Nat.le_of_ble_eq_true rfl) (Nat.le_of_ble_eq_true rfl) dX10_need_74
      · skip
        have tc_9 : ¬ 999 < x8_4.toInt := fun h => c_9 ((fa_lt _ _).mpr h)
        refine lv_aload_n hx hb dX10_need_46 rfl (lv_at hl 1 rfl) ?_
        refine lv_iload_n hx hb dX10_need_47 rfl (lv_at hl 2 rfl) ?_
        refine lv_iload_n hx hb dX10_need_48 rfl (lv_at hl 3 rfl) ?_
        refine lv_iload hx hb dX10_need_49 (lv_at hl 0 rfl) ?_
        refine pu_calll (runV (As := [.int v0, .int v1, .int x8_4]) (rest := []) ⟨hx, hb, hml, hown, hts⟩ (t_X10_lacking l D cy base τ G_8 a h_a v0 ⟨by omega, by omega⟩ v1 ⟨by omega, by omega⟩ x8_4) sV_X10_386 hK (t_recv cf_11 hK hT h_a) ⟨Nat.le_trans hZ hS.1, hT⟩ ⟨Nat.le_of_ble_eq_true rfl, Nat.le_of_ble_eq_true rfl⟩ rfl hl.1 rfl (Nat.le_of_ble_eq_true rfl) dX10_need_51 ⟨Nat.le_of_ble_eq_true rfl, Nat.le_of_ble_eq_true rfl⟩) (fun r_10 hr_10 => ?_)
        refine lv_iload_n hx hb dX10_need_54 rfl (lv_at hl 4 rfl) ?_
        refine lv_i2l hx hb dX10_need_55 rfl ?_
        refine lv_topl (fun z_11 ez_11 => ?_)
        have tz_11 : z_11.toInt = v2.toInt := by rw [ez_11]; exact wide_t v2
        refine lv_ldc2 (v := 1000000000) hx hb hown (hts _ kl_X10_345) dX10_need_56 ?_
        refine lv_lmul hx hb dX10_need_59 ?_
        refine lv_topl (fun z_12 ez_12 => ?_)
        have tz_12 : z_12.toInt = z_11.toInt * 1000000000 := mul_t64 ez_12 (show -9223372036854775808 ≤ z_11.toInt * 1000000000 by omega) (show z_11.toInt * 1000000000 < 9223372036854775808 by omega)
        refine W.lcmp hx hb dX10_need_60 ?_
        refine lv_topi (fun z_13 ez_13 => ?_)
        have tz_13 : (z_13.toInt < 0 ↔ r_10.toInt < z_12.toInt) ∧ (0 < z_13.toInt ↔ z_12.toInt < r_10.toInt) ∧ -1 ≤ z_13.toInt ∧ z_13.toInt ≤ 1 := cmp_t ez_13
        refine lv_if_gt (tgt := 67) hx hb dX10_need_61 (by decide) (fun c_14 => ?_) (fun c_14 => ?_)
        · skip
          have tc_14 : 0 < z_13.toInt := (fa_lt _ _).mp c_14
          obtain ⟨z_15, ez_15⟩ : ∃ y : Int32, y = x8_4 + 1 := ⟨_, rfl⟩
          have tz_15 : z_15.toInt = x8_4.toInt + 1 := add_t ez_15 (show -2147483648 ≤ x8_4.toInt + 1 by omega) (show x8_4.toInt + 1 < 2147483648 by omega)
          refine lv_iinc (v := z_15) (lv' := [(4, .int z_15), (0, .ref a), (1, .int v0), (2, .int v1), (3, .int v2)]) hx hb dX10_need_67 hl (k := 0) rfl (by rw [ez_15]; rfl) (by decide) rfl (fun ls hl => ?_)
          refine lv_goto (tgt := 38) hx hb dX10_need_70 (by decide) ?_
          exact ih8 (z_15, G_8) _ _ _ (by show (1000 - z_15.toInt).toNat < (1000 - x8_4.toInt).toNat; omega) ⟨(by show 0 ≤ z_15.toInt; omega), (by show z_15.toInt ≤ 1000; omega), hF, hT, hS, lv_sub hl [0, 1, 2, 3, 4] rfl⟩
        · skip
          have tc_14 : ¬ 0 < z_13.toInt := fun h => c_14 ((fa_lt _ _).mpr h)
          refine lv_iload hx hb dX10_need_64 (lv_at hl 0 rfl) ?_
          exact ret_i hx hb hr hlocks ⟨⟨hS.1, hS.2.1⟩, G_8, hF, ⟨_, rfl, trivial⟩, hT⟩ hS.2.2 (Nat.le_of_ble_eq_true rfl) (Nat.le_of_ble_eq_true rfl) dX10_need_66
    · skip
      have er_5 := hr_5_1
      subst er_5
      refine W.eq (g2 := F0 m 24 ls [.int 0]) rfl ?_
      refine lv_if_ne (tgt := 30) hx hb dX10_need_24 (by decide) (fun c_16 => absurd rfl c_16) (fun _ => ?_)
      refine lv_bipush (v := (-2)) hx hb dX10_need_27 (by decide) ?_
      exact ret_i hx hb hr hlocks ⟨⟨hS.1, hS.2.1⟩, G_1, hF, ⟨_, rfl, trivial⟩, hT⟩ hS.2.2 (Nat.le_of_ble_eq_true rfl) (Nat.le_of_ble_eq_true rfl) dX10_need_29
  · skip
    have er_2 := hr_2_1
    subst er_2
    refine W.eq (g2 := F0 m 12 ls [.int 0]) rfl ?_
    refine lv_if_eq (tgt := 27) hx hb dX10_need_12 (by decide) (fun _ => ?_) (fun c_17 => absurd (by decide) c_17)
    refine lv_bipush (v := (-2)) hx hb dX10_need_27 (by decide) ?_
    exact ret_i hx hb hr hlocks ⟨⟨hS.1, hS.2.1⟩, G_1, hF, ⟨_, rfl, trivial⟩, hT⟩ hS.2.2 (Nat.le_of_ble_eq_true rfl) (Nat.le_of_ble_eq_true rfl) dX10_need_29
set_option maxHeartbeats 4000000 in
set_option maxRecDepth 100000 in
theorem t_X10_sends (l : Launch) (D : va_G) (cy : Nat → ClassId) (base : Nat) (τ : Nat → Nat) (G : Gh) (a : Nat) (h_a : τ a = 11) (v : Int32) (r_v : 0 ≤ v.toInt ∧ v.toInt ≤ 5) (w : Int32) (r_w : 0 ≤ w.toInt ∧ w.toInt ≤ 2) (d : Int32) (r_d : 1 ≤ d.toInt ∧ d.toInt ≤ 60) (sn : Int32) (z : Int32) (r_z : 0 ≤ z.toInt ∧ z.toInt ≤ 600) (y : Int32) (r_y : 0 ≤ y.toInt ∧ y.toInt ≤ 9) (sa : Nat) (h_sa : τ sa = 74) (e_sa : G.2.2.1 a 24 = some sa) (cr : Int32) (e_cr : cr = G.1 sa 1) (r_cr : 0 ≤ cr.toInt ∧ cr.toInt ≤ 50) (hq : z.toInt + y.toInt * cr.toInt ≤ 600) : MM l yX10_sends cX10_sends 15 (some .long) 2 0 0 D cy [.ref a, .int v, .int w, .int d, .int sn, .int z, .int y] (PT D cy base τ G) (PuL (fun r => True)) noF := by
  refine MM.of (by decide) (Nat.le_of_ble_eq_true rfl) ?_
  intro p e s m below meth c C hPT ls hl
  obtain ⟨hx, hb, hr, hml, hown, hts, hlocks, hK, hnm⟩ := C
  obtain ⟨hZ, hT⟩ := hPT
  have hS : va_S (RA base) s.heap s.heap [] := va_S.rf
  have hl : lv_has ls 15 [(0, .ref a), (1, .int v), (2, .int w), (3, .int d), (4, .int sn), (5, .int z), (6, .int y)] := hl
  refine lv_iload hx hb dX10_sends_0 (lv_at hl 5 rfl) ?_
  refine lv_iload hx hb dX10_sends_2 (lv_at hl 6 rfl) ?_
  refine lv_aload_n hx hb dX10_sends_4 rfl (lv_at hl 0 rfl) ?_
  refine t_getr cf_11 hx hb hts hown hK hT h_a (k := 24) (P := fun q => τ q = 74) rfl (fun _ h9 => h9) fl_X10_55 (fun _ h9 => h9) dX10_sends_5 (fun q_1 eq_1 hq_1 => ?_)
  have w_2 : sa = q_1 := Option.some.inj (e_sa.symm.trans eq_1)
  subst w_2
  refine lv_iconst (v := 1) hx hb dX10_sends_8 (by decide) ?_
  refine t_iald (n := 30) (i := 1) rfl (by decide) hx hb hK hT h_sa (hT.len h_sa (by decide)) ⟨by decide, by decide⟩ dX10_sends_9 (fun z_3 ez_3 rz_3 => ?_)
  have w_4 : cr = z_3 := e_cr.trans ez_3.symm
  subst w_4
  refine lv_imul hx hb dX10_sends_10 ?_
  refine lv_topi (fun z_5 ez_5 => ?_)
  have tz_5 : 0 ≤ z_5.toInt ∧ z_5.toInt ≤ 450 ∧ z_5.toInt = y.toInt * cr.toInt := mulb_t (a := 9) (b := 50) ez_5 (by omega) (by omega) (by omega) (by omega) (by decide)
  refine lv_iadd hx hb dX10_sends_11 ?_
  refine lv_topi (fun z_6 ez_6 => ?_)
  have tz_6 : z_6.toInt = z.toInt + z_5.toInt := add_t ez_6 (show -2147483648 ≤ z.toInt + z_5.toInt by omega) (show z.toInt + z_5.toInt < 2147483648 by omega)
  refine lv_istore (lv' := [(7, .int z_6), (0, .ref a), (1, .int v), (2, .int w), (3, .int d), (4, .int sn), (5, .int z), (6, .int y)]) hx hb dX10_sends_12 hl (by decide) rfl (fun ls hl => ?_)
  refine lv_ldc2 (v := 1000) hx hb hown (hts _ kl_X10_343) dX10_sends_14 ?_
  refine lv_iload hx hb dX10_sends_17 (lv_at hl 7 rfl) ?_
  refine lv_i2l hx hb dX10_sends_19 rfl ?_
  refine lv_topl (fun z_7 ez_7 => ?_)
  have tz_7 : z_7.toInt = y.toInt := by rw [ez_7]; exact wide_t y
  refine lv_lmul hx hb dX10_sends_20 ?_
  refine lv_topl (fun z_8 ez_8 => ?_)
  have tz_8 : z_8.toInt = 1000 * z_7.toInt := mul_t64 ez_8 (show -9223372036854775808 ≤ 1000 * z_7.toInt by omega) (show 1000 * z_7.toInt < 9223372036854775808 by omega)
  refine lv_aload_n hx hb dX10_sends_21 rfl (lv_at hl 1 rfl) ?_
  refine t_getr cf_11 hx hb hts hown hK hT h_a (k := 24) (P := fun q => τ q = 74) rfl (fun _ h9 => h9) fl_X10_55 (fun _ h9 => h9) dX10_sends_22 (fun q_9 eq_9 hq_9 => ?_)
  have w_10 : sa = q_9 := Option.some.inj (e_sa.symm.trans eq_9)
  subst w_10
  refine lv_iconst (v := 2) hx hb dX10_sends_25 (by decide) ?_
  refine t_iald (n := 30) (i := 2) rfl (by decide) hx hb hK hT h_sa (hT.len h_sa (by decide)) ⟨by decide, by decide⟩ dX10_sends_26 (fun z_11 ez_11 rz_11 => ?_)
  have ez_11 : z_11 = G.1 sa 2 := ez_11
  refine lv_i2l hx hb dX10_sends_27 rfl ?_
  refine lv_topl (fun z_12 ez_12 => ?_)
  have tz_12 : z_12.toInt = z_11.toInt := by rw [ez_12]; exact wide_t z_11
  have az_12 := min_t z_11
  have bz_12 := max_t z_11
  refine lv_aload_n hx hb dX10_sends_28 rfl (lv_at hl 1 rfl) ?_
  refine t_getr cf_11 hx hb hts hown hK hT h_a (k := 24) (P := fun q => τ q = 74) rfl (fun _ h9 => h9) fl_X10_55 (fun _ h9 => h9) dX10_sends_29 (fun q_13 eq_13 hq_13 => ?_)
  have w_14 : sa = q_13 := Option.some.inj (e_sa.symm.trans eq_13)
  subst w_14
  refine lv_iconst (v := 1) hx hb dX10_sends_32 (by decide) ?_
  refine t_iald (n := 30) (i := 1) rfl (by decide) hx hb hK hT h_sa (hT.len h_sa (by decide)) ⟨by decide, by decide⟩ dX10_sends_33 (fun z_15 ez_15 rz_15 => ?_)
  have w_16 : cr = z_15 := e_cr.trans ez_15.symm
  subst w_16
  refine lv_i2l hx hb dX10_sends_34 rfl ?_
  refine lv_topl (fun z_17 ez_17 => ?_)
  have tz_17 : z_17.toInt = cr.toInt := by rw [ez_17]; exact wide_t cr
  refine lv_aload_n hx hb dX10_sends_35 rfl (lv_at hl 1 rfl) ?_
  refine lv_iload_n hx hb dX10_sends_36 rfl (lv_at hl 3 rfl) ?_
  refine pu_calli (runV (As := [.int w]) (rest := [.long z_17, .long z_12, .long z_8]) ⟨hx, hb, hml, hown, hts⟩ (t_X10_priceOf l D cy base τ G a h_a w ⟨by omega, by omega⟩) sV_X10_363 hK (t_recv cf_11 hK hT h_a) ⟨Nat.le_trans hZ hS.1, hT⟩ ⟨Nat.le_of_ble_eq_true rfl, Nat.le_of_ble_eq_true rfl⟩ rfl hl.1 rfl (Nat.le_of_ble_eq_true rfl) dX10_sends_37 ⟨Nat.le_of_ble_eq_true rfl, Nat.le_of_ble_eq_true rfl⟩) (fun r_18 hr_18 => ?_)
  refine lv_i2l hx hb dX10_sends_40 rfl ?_
  refine lv_topl (fun z_19 ez_19 => ?_)
  have tz_19 : z_19.toInt = r_18.toInt := by rw [ez_19]; exact wide_t r_18
  have az_19 := min_t r_18
  have bz_19 := max_t r_18
  refine lv_lmul hx hb dX10_sends_41 ?_
  refine lv_topl (fun z_20 ez_20 => ?_)
  refine lv_ladd hx hb dX10_sends_42 ?_
  refine lv_topl (fun z_21 ez_21 => ?_)
  refine lv_lmul hx hb dX10_sends_43 ?_
  refine lv_topl (fun z_22 ez_22 => ?_)
  refine lv_lstore (lv' := [(8, .long z_22), (7, .int z_6), (0, .ref a), (1, .int v), (2, .int w), (3, .int d), (4, .int sn), (5, .int z), (6, .int y)]) hx hb dX10_sends_44 hl (by decide) rfl (fun ls hl => ?_)
  refine lv_ldc2 (v := 1000) hx hb hown (hts _ kl_X10_343) dX10_sends_46 ?_
  refine lv_aload_n hx hb dX10_sends_49 rfl (lv_at hl 2 rfl) ?_
  refine lv_iload_n hx hb dX10_sends_50 rfl (lv_at hl 4 rfl) ?_
  refine lv_aload_n hx hb dX10_sends_51 rfl (lv_at hl 2 rfl) ?_
  refine lv_iload_n hx hb dX10_sends_52 rfl (lv_at hl 3 rfl) ?_
  refine lv_iload_n hx hb dX10_sends_53 rfl (lv_at hl 4 rfl) ?_
  refine lv_iload_n hx hb dX10_sends_54 rfl (lv_at hl 5 rfl) ?_
  refine pu_calli (runV (As := [.int v, .int w, .int d]) (rest := [.int w, .ref a, .long 1000]) ⟨hx, hb, hml, hown, hts⟩ (t_X10_wantsOf l D cy base τ G a h_a v ⟨by omega, by omega⟩ w ⟨by omega, by omega⟩ d) sV_X10_353 hK (t_recv cf_11 hK hT h_a) ⟨Nat.le_trans hZ hS.1, hT⟩ ⟨Nat.le_of_ble_eq_true rfl, Nat.le_of_ble_eq_true rfl⟩ rfl hl.1 rfl (Nat.le_of_ble_eq_true rfl) dX10_sends_55 ⟨Nat.le_of_ble_eq_true rfl, Nat.le_of_ble_eq_true rfl⟩) (fun r_23 hr_23 => ?_)
  refine lv_iload hx hb dX10_sends_58 (lv_at hl 1 rfl) ?_
  refine pu_calll (runV (As := [.int w, .int r_23, .int z_6]) (rest := [.long 1000]) ⟨hx, hb, hml, hown, hts⟩ (t_X10_outcome l D cy base τ G a h_a w ⟨by omega, by omega⟩ r_23 z_6) sV_X10_366 hK (t_recv cf_11 hK hT h_a) ⟨Nat.le_trans hZ hS.1, hT⟩ ⟨Nat.le_of_ble_eq_true rfl, Nat.le_of_ble_eq_true rfl⟩ rfl hl.1 rfl (Nat.le_of_ble_eq_true rfl) dX10_sends_60 ⟨Nat.le_of_ble_eq_true rfl, Nat.le_of_ble_eq_true rfl⟩) (fun r_24 hr_24 => ?_)
  refine lv_lmul hx hb dX10_sends_63 ?_
  refine lv_topl (fun z_25 ez_25 => ?_)
  refine lv_lstore (lv' := [(10, .long z_25), (8, .long z_22), (7, .int z_6), (0, .ref a), (1, .int v), (2, .int w), (3, .int d), (4, .int sn), (5, .int z), (6, .int y)]) hx hb dX10_sends_64 hl (by decide) rfl (fun ls hl => ?_)
  refine lv_aload_n hx hb dX10_sends_66 rfl (lv_at hl 3 rfl) ?_
  refine lv_iload_n hx hb dX10_sends_67 rfl (lv_at hl 4 rfl) ?_
  refine pu_calli (runV (As := [.int v]) (rest := []) ⟨hx, hb, hml, hown, hts⟩ (t_X10_shutOf l D cy base τ G a h_a v ⟨by omega, by omega⟩) sV_X10_293 hK (t_recv cf_11 hK hT h_a) ⟨Nat.le_trans hZ hS.1, hT⟩ ⟨Nat.le_of_ble_eq_true rfl, Nat.le_of_ble_eq_true rfl⟩ rfl hl.1 rfl (Nat.le_of_ble_eq_true rfl) dX10_sends_68 ⟨Nat.le_of_ble_eq_true rfl, Nat.le_of_ble_eq_true rfl⟩) (fun r_26 hr_26 => ?_)
  refine lv_i2l hx hb dX10_sends_71 rfl ?_
  refine lv_topl (fun z_27 ez_27 => ?_)
  have tz_27 : z_27.toInt = r_26.toInt := by rw [ez_27]; exact wide_t r_26
  have az_27 := min_t r_26
  have bz_27 := max_t r_26
  refine lv_lload hx hb dX10_sends_72 (lv_at hl 0 rfl) ?_
  refine lv_lmul hx hb dX10_sends_74 ?_
  refine lv_topl (fun z_28 ez_28 => ?_)
  refine lv_bipush (v := 100) hx hb dX10_sends_75 (by decide) ?_
  refine lv_aload_n hx hb dX10_sends_77 rfl (lv_at hl 3 rfl) ?_
  refine lv_iload_n hx hb dX10_sends_78 rfl (lv_at hl 4 rfl) ?_
  refine pu_calli (runV (As := [.int v]) (rest := [.int 100, .long z_28]) ⟨hx, hb, hml, hown, hts⟩ (t_X10_shutOf l D cy base τ G a h_a v ⟨by omega, by omega⟩) sV_X10_293 hK (t_recv cf_11 hK hT h_a) ⟨Nat.le_trans hZ hS.1, hT⟩ ⟨Nat.le_of_ble_eq_true rfl, Nat.le_of_ble_eq_true rfl⟩ rfl hl.1 rfl (Nat.le_of_ble_eq_true rfl) dX10_sends_79 ⟨Nat.le_of_ble_eq_true rfl, Nat.le_of_ble_eq_true rfl⟩) (fun r_29 hr_29 => ?_)
  refine lv_isub hx hb dX10_sends_82 ?_
  refine lv_topi (fun z_30 ez_30 => ?_)
  refine lv_i2l hx hb dX10_sends_83 rfl ?_
  refine lv_topl (fun z_31 ez_31 => ?_)
  have tz_31 : z_31.toInt = z_30.toInt := by rw [ez_31]; exact wide_t z_30
  have az_31 := min_t z_30
  have bz_31 := max_t z_30
  refine lv_aload_n hx hb dX10_sends_84 rfl (lv_at hl 3 rfl) ?_
  refine t_getr cf_11 hx hb hts hown hK hT h_a (k := 38) (P := fun q => τ q = 88) rfl (fun _ h9 => h9) fl_X10_99 (fun _ h9 => h9) dX10_sends_85 (fun q_32 eq_32 hq_32 => ?_)
  refine lv_iload_n hx hb dX10_sends_88 rfl (lv_at hl 6 rfl) ?_
  refine lv_iconst (v := 1) hx hb dX10_sends_89 (by decide) ?_
  refine lv_iadd hx hb dX10_sends_90 ?_
  refine lv_topi (fun z_33 ez_33 => ?_)
  have tz_33 : z_33.toInt = d.toInt + 1 := add_t ez_33 (show -2147483648 ≤ d.toInt + 1 by omega) (show d.toInt + 1 < 2147483648 by omega)
  refine lv_iconst (v := 1) hx hb dX10_sends_91 (by decide) ?_
  refine lv_iload hx hb dX10_sends_92 (lv_at hl 2 rfl) ?_
  refine pu_calli (runS (As := [.int z_33, .int 1, .int z_6]) (rest := [.ref q_32, .long z_31, .long z_28]) ⟨hx, hb, hml, hown, hts⟩ (t_X10_at3 l D cy base τ G z_33 ⟨by omega, by omega⟩ 1 (by decide) z_6 ⟨by omega, by omega⟩) sS_X10_392 hK ⟨Nat.le_trans hZ hS.1, hT⟩ ⟨Nat.le_of_ble_eq_true rfl, Nat.le_of_ble_eq_true rfl⟩ rfl hl.1 rfl (Nat.le_of_ble_eq_true rfl) dX10_sends_94 ⟨Nat.le_of_ble_eq_true rfl, Nat.le_of_ble_eq_true rfl⟩) (fun r_34 hr_34 => ?_)
  obtain ⟨hr_34_lo, hr_34_hi⟩ := hr_34
  have hr_34_lo : 0 ≤ r_34.toInt := hr_34_lo
  have hr_34_hi : r_34.toInt ≤ 74523 := hr_34_hi
  refine t_lald (n := 75000) (i := r_34) rfl (by decide) hx hb hK hT hq_32 (hT.len hq_32 (by decide)) ⟨by omega, by omega⟩ dX10_sends_97 (fun z_35 ez_35 => ?_)
  refine lv_lmul hx hb dX10_sends_98 ?_
  refine lv_topl (fun z_36 ez_36 => ?_)
  refine lv_ladd hx hb dX10_sends_99 ?_
  refine lv_topl (fun z_37 ez_37 => ?_)
  refine lv_ldc2 (v := 100) hx hb hown (hts _ kl_X10_282) dX10_sends_100 ?_
  refine lv_ldiv hx hb dX10_sends_103 (by decide) ?_
  refine lv_topl (fun z_38 ez_38 => ?_)
  refine lv_lstore (lv' := [(12, .long z_38), (10, .long z_25), (8, .long z_22), (7, .int z_6), (0, .ref a), (1, .int v), (2, .int w), (3, .int d), (4, .int sn), (5, .int z), (6, .int y)]) hx hb dX10_sends_104 hl (by decide) rfl (fun ls hl => ?_)
  refine lv_aload_n hx hb dX10_sends_106 rfl (lv_at hl 4 rfl) ?_
  refine lv_iload_n hx hb dX10_sends_107 rfl (lv_at hl 7 rfl) ?_
  refine lv_iload hx hb dX10_sends_108 (lv_at hl 8 rfl) ?_
  refine pu_calli (runV (As := [.int d, .int sn]) (rest := []) ⟨hx, hb, hml, hown, hts⟩ (t_X10_chance l D cy base τ G a h_a d sn) sV_X10_286 hK (t_recv cf_11 hK hT h_a) ⟨Nat.le_trans hZ hS.1, hT⟩ ⟨Nat.le_of_ble_eq_true rfl, Nat.le_of_ble_eq_true rfl⟩ rfl hl.1 rfl (Nat.le_of_ble_eq_true rfl) dX10_sends_110 ⟨Nat.le_of_ble_eq_true rfl, Nat.le_of_ble_eq_true rfl⟩) (fun r_39 hr_39 => ?_)
  refine lv_istore (lv' := [(14, .int r_39), (12, .long z_38), (10, .long z_25), (8, .long z_22), (7, .int z_6), (0, .ref a), (1, .int v), (2, .int w), (3, .int d), (4, .int sn), (5, .int z), (6, .int y)]) hx hb dX10_sends_113 hl (by decide) rfl (fun ls hl => ?_)
  refine lv_lload hx hb dX10_sends_115 (lv_at hl 3 rfl) ?_
  refine lv_iload hx hb dX10_sends_117 (lv_at hl 0 rfl) ?_
  refine lv_i2l hx hb dX10_sends_119 rfl ?_
  refine lv_topl (fun z_40 ez_40 => ?_)
  have tz_40 : z_40.toInt = r_39.toInt := by rw [ez_40]; exact wide_t r_39
  have az_40 := min_t r_39
  have bz_40 := max_t r_39
  refine lv_lload hx hb dX10_sends_120 (lv_at hl 1 rfl) ?_
  refine lv_lmul hx hb dX10_sends_122 ?_
  refine lv_topl (fun z_41 ez_41 => ?_)
  refine lv_bipush (v := 100) hx hb dX10_sends_123 (by decide) ?_
  refine lv_iload hx hb dX10_sends_125 (lv_at hl 0 rfl) ?_
  refine lv_isub hx hb dX10_sends_127 ?_
  refine lv_topi (fun z_42 ez_42 => ?_)
  refine lv_i2l hx hb dX10_sends_128 rfl ?_
  refine lv_topl (fun z_43 ez_43 => ?_)
  have tz_43 : z_43.toInt = z_42.toInt := by rw [ez_43]; exact wide_t z_42
  have az_43 := min_t z_42
  have bz_43 := max_t z_42
  refine lv_aload_n hx hb dX10_sends_129 rfl (lv_at hl 5 rfl) ?_
  refine t_getr cf_11 hx hb hts hown hK hT h_a (k := 38) (P := fun q => τ q = 88) rfl (fun _ h9 => h9) fl_X10_99 (fun _ h9 => h9) dX10_sends_130 (fun q_44 eq_44 hq_44 => ?_)
  have w_45 : q_32 = q_44 := Option.some.inj (eq_32.symm.trans eq_44)
  subst w_45
  refine lv_iload_n hx hb dX10_sends_133 rfl (lv_at hl 8 rfl) ?_
  refine lv_iconst (v := 1) hx hb dX10_sends_134 (by decide) ?_
  refine lv_iadd hx hb dX10_sends_135 ?_
  refine lv_topi (fun z_46 ez_46 => ?_)
  have w_47 : z_33 = z_46 := ez_33.trans ez_46.symm
  subst w_47
  refine lv_iconst (v := 0) hx hb dX10_sends_136 (by decide) ?_
  refine lv_iload hx hb dX10_sends_137 (lv_at hl 4 rfl) ?_
  refine pu_calli (runS (As := [.int z_33, .int 0, .int z_6]) (rest := [.ref q_32, .long z_43, .long z_41, .long z_22]) ⟨hx, hb, hml, hown, hts⟩ (t_X10_at3 l D cy base τ G z_33 ⟨by omega, by omega⟩ 0 (by decide) z_6 ⟨by omega, by omega⟩) sS_X10_392 hK ⟨Nat.le_trans hZ hS.1, hT⟩ ⟨Nat.le_of_ble_eq_true rfl, Nat.le_of_ble_eq_true rfl⟩ rfl hl.1 rfl (Nat.le_of_ble_eq_true rfl) dX10_sends_139 ⟨Nat.le_of_ble_eq_true rfl, Nat.le_of_ble_eq_true rfl⟩) (fun r_48 hr_48 => ?_)
  obtain ⟨hr_48_lo, hr_48_hi⟩ := hr_48
  have hr_48_lo : 0 ≤ r_48.toInt := hr_48_lo
  have hr_48_hi : r_48.toInt ≤ 74523 := hr_48_hi
  refine t_lald (n := 75000) (i := r_48) rfl (by decide) hx hb hK hT hq_32 (hT.len hq_32 (by decide)) ⟨by omega, by omega⟩ dX10_sends_142 (fun z_49 ez_49 => ?_)
  refine lv_lmul hx hb dX10_sends_143 ?_
  refine lv_topl (fun z_50 ez_50 => ?_)
  refine lv_ladd hx hb dX10_sends_144 ?_
  refine lv_topl (fun z_51 ez_51 => ?_)
  refine lv_ldc2 (v := 100) hx hb hown (hts _ kl_X10_282) dX10_sends_145 ?_
  refine lv_ldiv hx hb dX10_sends_148 (by decide) ?_
  refine lv_topl (fun z_52 ez_52 => ?_)
  refine lv_ladd hx hb dX10_sends_149 ?_
  refine lv_topl (fun z_53 ez_53 => ?_)
  exact ret_l hx hb hr hlocks ⟨rfl, _, rfl, trivial⟩ (fun _ h => absurd h List.not_mem_nil) (Nat.le_refl _) (Nat.le_refl _) dX10_sends_150
set_option maxHeartbeats 4000000 in
set_option maxRecDepth 100000 in
theorem t_X10_canSend (l : Launch) (D : va_G) (cy : Nat → ClassId) (base : Nat) (τ : Nat → Nat) (G : Gh) (a : Nat) (h_a : τ a = 11) (v : Int32) (r_v : 0 ≤ v.toInt ∧ v.toInt ≤ 600) (w : Int32) (r_w : 1 ≤ w.toInt ∧ w.toInt ≤ 10) (sa : Nat) (h_sa : τ sa = 74) (e_sa : G.2.2.1 a 24 = some sa) (cr : Int32) (e_cr : cr = G.1 sa 1) (r_cr : 0 ≤ cr.toInt ∧ cr.toInt ≤ 50) : MM l yX10_canSend cX10_canSend 3 (some .boolean) 0 0 0 D cy [.ref a, .int v, .int w] (PT D cy base τ G) (PuI (fun r => ((r = 1 ∧ w.toInt ≤ 9 ∧ 0 ≤ w.toInt * cr.toInt ∧ v.toInt + w.toInt * cr.toInt ≤ 600) ∨ (r = 0)))) noF := by
  refine MM.of (by decide) (Nat.le_of_ble_eq_true rfl) ?_
  intro p e s m below meth c C hPT ls hl
  obtain ⟨hx, hb, hr, hml, hown, hts, hlocks, hK, hnm⟩ := C
  obtain ⟨hZ, hT⟩ := hPT
  have hS : va_S (RA base) s.heap s.heap [] := va_S.rf
  have hl : lv_has ls 3 [(0, .ref a), (1, .int v), (2, .int w)] := hl
  refine lv_iload_n hx hb dX10_canSend_0 rfl (lv_at hl 2 rfl) ?_
  refine lv_aload_n hx hb dX10_canSend_1 rfl (lv_at hl 0 rfl) ?_
  refine t_getr cf_11 hx hb hts hown hK hT h_a (k := 24) (P := fun q => τ q = 74) rfl (fun _ h9 => h9) fl_X10_55 (fun _ h9 => h9) dX10_canSend_2 (fun q_1 eq_1 hq_1 => ?_)
  have w_2 : sa = q_1 := Option.some.inj (e_sa.symm.trans eq_1)
  subst w_2
  refine lv_iconst (v := 0) hx hb dX10_canSend_5 (by decide) ?_
  refine t_iald (n := 30) (i := 0) rfl (by decide) hx hb hK hT h_sa (hT.len h_sa (by decide)) ⟨by decide, by decide⟩ dX10_canSend_6 (fun z_3 ez_3 rz_3 => ?_)
  have ez_3 : z_3 = G.1 sa 0 := ez_3
  have qz_3 : (0 % 6 = 0 → 0 ≤ z_3.toInt ∧ z_3.toInt ≤ 9) ∧ (0 % 6 = 1 → 0 ≤ z_3.toInt ∧ z_3.toInt ≤ 50) ∧ (0 % 6 = 3 → 0 ≤ z_3.toInt ∧ z_3.toInt ≤ 50) := rz_3
  have rz_3 : 0 ≤ z_3.toInt ∧ z_3.toInt ≤ 9 := by omega
  refine lv_icmp_gt (tgt := 30) hx hb dX10_canSend_7 (by decide) (fun c_4 => ?_) (fun c_4 => ?_)
  · skip
    have tc_4 : z_3.toInt < w.toInt := (fa_lt _ _).mp c_4
    refine lv_iconst (v := 0) hx hb dX10_canSend_30 (by decide) ?_
    exact ret_z (ty := .boolean) hx hb hr rfl hlocks ⟨rfl, _, rfl, (Or.inr rfl)⟩ (fun _ h => absurd h List.not_mem_nil) (Nat.le_refl _) (Nat.le_refl _) dX10_canSend_31
  · skip
    have tc_4 : ¬ z_3.toInt < w.toInt := fun h => c_4 ((fa_lt _ _).mpr h)
    refine lv_iload_n hx hb dX10_canSend_10 rfl (lv_at hl 1 rfl) ?_
    refine lv_iload_n hx hb dX10_canSend_11 rfl (lv_at hl 2 rfl) ?_
    refine lv_aload_n hx hb dX10_canSend_12 rfl (lv_at hl 0 rfl) ?_
    refine t_getr cf_11 hx hb hts hown hK hT h_a (k := 24) (P := fun q => τ q = 74) rfl (fun _ h9 => h9) fl_X10_55 (fun _ h9 => h9) dX10_canSend_13 (fun q_5 eq_5 hq_5 => ?_)
    have w_6 : sa = q_5 := Option.some.inj (e_sa.symm.trans eq_5)
    subst w_6
    refine lv_iconst (v := 1) hx hb dX10_canSend_16 (by decide) ?_
    refine t_iald (n := 30) (i := 1) rfl (by decide) hx hb hK hT h_sa (hT.len h_sa (by decide)) ⟨by decide, by decide⟩ dX10_canSend_17 (fun z_7 ez_7 rz_7 => ?_)
    have w_8 : cr = z_7 := e_cr.trans ez_7.symm
    subst w_8
    refine lv_imul hx hb dX10_canSend_18 ?_
    refine lv_topi (fun z_9 ez_9 => ?_)
    have tz_9 : 0 ≤ z_9.toInt ∧ z_9.toInt ≤ 450 ∧ z_9.toInt = w.toInt * cr.toInt := mulb_t (a := 9) (b := 50) ez_9 (by omega) (by omega) (by omega) (by omega) (by decide)
    refine lv_iadd hx hb dX10_canSend_19 ?_
    refine lv_topi (fun z_10 ez_10 => ?_)
    have tz_10 : z_10.toInt = v.toInt + z_9.toInt := add_t ez_10 (show -2147483648 ≤ v.toInt + z_9.toInt by omega) (show v.toInt + z_9.toInt < 2147483648 by omega)
    refine lv_sipush (v := 600) hx hb dX10_canSend_20 (by decide) ?_
    refine lv_icmp_gt (tgt := 30) hx hb dX10_canSend_23 (by decide) (fun c_11 => ?_) (fun c_11 => ?_)
    · skip
      have tc_11 : 600 < z_10.toInt := (fa_lt _ _).mp c_11
      refine lv_iconst (v := 0) hx hb dX10_canSend_30 (by decide) ?_
      exact ret_z (ty := .boolean) hx hb hr rfl hlocks ⟨rfl, _, rfl, (Or.inr rfl)⟩ (fun _ h => absurd h List.not_mem_nil) (Nat.le_refl _) (Nat.le_refl _) dX10_canSend_31
    · skip
      have tc_11 : ¬ 600 < z_10.toInt := fun h => c_11 ((fa_lt _ _).mpr h)
      refine lv_iconst (v := 1) hx hb dX10_canSend_26 (by decide) ?_
      refine lv_goto (tgt := 31) hx hb dX10_canSend_27 (by decide) ?_
      exact ret_z (ty := .boolean) hx hb hr rfl hlocks ⟨rfl, _, rfl, (Or.inl ⟨rfl, (by omega), (by omega), (by omega)⟩)⟩ (fun _ h => absurd h List.not_mem_nil) (Nat.le_refl _) (Nat.le_refl _) dX10_canSend_31
set_option maxHeartbeats 4000000 in
set_option maxRecDepth 100000 in
theorem t_X10_fewest (l : Launch) (D : va_G) (cy : Nat → ClassId) (base : Nat) (τ : Nat → Nat) (G : Gh) (a : Nat) (h_a : τ a = 11) (v : Int32) (r_v : 0 ≤ v.toInt ∧ v.toInt ≤ 5) (w : Int32) (r_w : 0 ≤ w.toInt ∧ w.toInt ≤ 2) (d : Int32) (r_d : 1 ≤ d.toInt ∧ d.toInt ≤ 60) (sn : Int32) (z : Int32) (r_z : 0 ≤ z.toInt ∧ z.toInt ≤ 600) (sa : Nat) (h_sa : τ sa = 74) (e_sa : G.2.2.1 a 24 = some sa) (cr : Int32) (e_cr : cr = G.1 sa 1) (r_cr : 0 ≤ cr.toInt ∧ cr.toInt ≤ 50) : MM l yX10_fewest cX10_fewest 12 (some .int) 3 0 0 D cy [.ref a, .int v, .int w, .int d, .int sn, .int z] (PT D cy base τ G) (PuI (fun r => 0 ≤ r.toInt ∧ r.toInt ≤ 9 ∧ (0 ≤ r.toInt * cr.toInt) ∧ (z.toInt + r.toInt * cr.toInt ≤ 600))) noF := by
  refine MM.of (by decide) (Nat.le_of_ble_eq_true rfl) ?_
  intro p e s m below meth c C hPT ls hl
  obtain ⟨hx, hb, hr, hml, hown, hts, hlocks, hK, hnm⟩ := C
  obtain ⟨hZ, hT⟩ := hPT
  have hS : va_S (RA base) s.heap s.heap [] := va_S.rf
  have hl : lv_has ls 12 [(0, .ref a), (1, .int v), (2, .int w), (3, .int d), (4, .int sn), (5, .int z)] := hl
  refine lv_iconst (v := 0) hx hb dX10_fewest_0 (by decide) ?_
  refine lv_istore (lv' := [(6, .int 0), (0, .ref a), (1, .int v), (2, .int w), (3, .int d), (4, .int sn), (5, .int z)]) hx hb dX10_fewest_1 hl (by decide) rfl (fun ls hl => ?_)
  refine lv_aload_n hx hb dX10_fewest_3 rfl (lv_at hl 1 rfl) ?_
  refine lv_iload_n hx hb dX10_fewest_4 rfl (lv_at hl 2 rfl) ?_
  refine lv_iload_n hx hb dX10_fewest_5 rfl (lv_at hl 3 rfl) ?_
  refine lv_iload_n hx hb dX10_fewest_6 rfl (lv_at hl 4 rfl) ?_
  refine lv_iload hx hb dX10_fewest_7 (lv_at hl 5 rfl) ?_
  refine lv_iload hx hb dX10_fewest_9 (lv_at hl 6 rfl) ?_
  refine lv_iconst (v := 0) hx hb dX10_fewest_11 (by decide) ?_
  refine pu_calll (runV (As := [.int v, .int w, .int d, .int sn, .int z, .int 0]) (rest := []) ⟨hx, hb, hml, hown, hts⟩ (t_X10_sends l D cy base τ G a h_a v ⟨by omega, by omega⟩ w ⟨by omega, by omega⟩ d ⟨by omega, by omega⟩ sn z ⟨by omega, by omega⟩ 0 (by decide) sa h_sa e_sa cr e_cr ⟨by omega, by omega⟩ (by show z.toInt + (0 : Int) * cr.toInt ≤ 600; first | assumption | omega | decide)) sV_X10_396 hK (t_recv cf_11 hK hT h_a) ⟨Nat.le_trans hZ hS.1, hT⟩ ⟨Nat.le_of_ble_eq_true rfl, Nat.le_of_ble_eq_true rfl⟩ rfl hl.1 rfl (Nat.le_of_ble_eq_true rfl) dX10_fewest_12 ⟨Nat.le_of_ble_eq_true rfl, Nat.le_of_ble_eq_true rfl⟩) (fun r_1 hr_1 => ?_)
  refine lv_lstore (lv' := [(7, .long r_1), (6, .int 0), (0, .ref a), (1, .int v), (2, .int w), (3, .int d), (4, .int sn), (5, .int z)]) hx hb dX10_fewest_15 hl (by decide) rfl (fun ls hl => ?_)
  refine lv_iconst (v := 1) hx hb dX10_fewest_17 (by decide) ?_
  refine lv_istore (lv' := [(9, .int 1), (7, .long r_1), (6, .int 0), (0, .ref a), (1, .int v), (2, .int w), (3, .int d), (4, .int sn), (5, .int z)]) hx hb dX10_fewest_18 hl (by decide) rfl (fun ls hl => ?_)
  refine W.loop (σ := Int32 × Int64 × Int32) (fun w2 H locs ls => 0 ≤ w2.1.toInt ∧ w2.1.toInt ≤ 9 ∧ 1 ≤ w2.2.2.toInt ∧ w2.2.2.toInt ≤ 10 ∧ (0 ≤ w2.1.toInt * cr.toInt) ∧ (z.toInt + w2.1.toInt * cr.toInt ≤ 600) ∧ H = s.heap ∧ locs = [] ∧ lv_has ls 12 [(6, .int w2.1), (7, .long w2.2.1), (9, .int w2.2.2), (0, .ref a), (1, .int v), (2, .int w), (3, .int d), (4, .int sn), (5, .int z)]) (fun w2 => (10 - w2.2.2.toInt).toNat) ?_ ((0 : Int32), r_1, (1 : Int32)) _ _ _ ⟨(by show 0 ≤ (0 : Int32).toInt; decide), (by show (0 : Int32).toInt ≤ 9; decide), (by show 1 ≤ (1 : Int32).toInt; decide), (by show (1 : Int32).toInt ≤ 10; decide), (by show 0 ≤ (0 : Int) * cr.toInt; first | omega | assumption | exact rfl), (by show z.toInt + (0 : Int) * cr.toInt ≤ 600; first | omega | assumption | exact rfl), rfl, rfl, lv_sub hl [2, 1, 0, 3, 4, 5, 6, 7, 8] rfl⟩
  intro w2 H locs ls hI ih2
  obtain ⟨x2_6, x2_7, x2_9⟩ := w2
  obtain ⟨i2_0, i2_1, i2_2, i2_3, i2_4, i2_5, rfl, rfl, hl⟩ := hI
  have i2_0 : 0 ≤ x2_6.toInt := i2_0
  have i2_1 : x2_6.toInt ≤ 9 := i2_1
  have i2_2 : 1 ≤ x2_9.toInt := i2_2
  have i2_3 : x2_9.toInt ≤ 10 := i2_3
  have i2_4 : (0 ≤ x2_6.toInt * cr.toInt) := i2_4
  have i2_5 : (z.toInt + x2_6.toInt * cr.toInt ≤ 600) := i2_5
  have hl : lv_has ls 12 [(6, .int x2_6), (7, .long x2_7), (9, .int x2_9), (0, .ref a), (1, .int v), (2, .int w), (3, .int d), (4, .int sn), (5, .int z)] := hl
  refine lv_aload_n hx hb dX10_fewest_20 rfl (lv_at hl 3 rfl) ?_
  refine lv_iload hx hb dX10_fewest_21 (lv_at hl 8 rfl) ?_
  refine lv_iload hx hb dX10_fewest_23 (lv_at hl 2 rfl) ?_
  refine pu_calli (runV (As := [.int z, .int x2_9]) (rest := []) ⟨hx, hb, hml, hown, hts⟩ (t_X10_canSend l D cy base τ G a h_a z ⟨by omega, by omega⟩ x2_9 ⟨by omega, by omega⟩ sa h_sa e_sa cr e_cr ⟨by omega, by omega⟩) sV_X10_400 hK (t_recv cf_11 hK hT h_a) ⟨Nat.le_trans hZ hS.1, hT⟩ ⟨Nat.le_of_ble_eq_true rfl, Nat.le_of_ble_eq_true rfl⟩ rfl hl.1 rfl (Nat.le_of_ble_eq_true rfl) dX10_fewest_25 ⟨Nat.le_of_ble_eq_true rfl, Nat.le_of_ble_eq_true rfl⟩) (fun r_3 hr_3 => ?_)
  have hr_3_c := hr_3
  rcases hr_3_c with hr_3_0 | hr_3_1
  · skip
    obtain ⟨er_3, hr_3_0_f0, hr_3_0_f1, hr_3_0_f2⟩ := hr_3_0
    have hr_3_0_f0 : x2_9.toInt ≤ 9 := hr_3_0_f0
    have hr_3_0_f1 : 0 ≤ x2_9.toInt * cr.toInt := hr_3_0_f1
    have hr_3_0_f2 : z.toInt + x2_9.toInt * cr.toInt ≤ 600 := hr_3_0_f2
    subst er_3
    refine W.eq (g2 := F0 m 28 ls [.int 1]) rfl ?_
    refine lv_if_eq (tgt := 71) hx hb dX10_fewest_28 (by decide) (fun c_4 => absurd c_4 (by decide)) (fun _ => ?_)
    refine lv_aload_n hx hb dX10_fewest_31 rfl (lv_at hl 3 rfl) ?_
    refine lv_iload_n hx hb dX10_fewest_32 rfl (lv_at hl 4 rfl) ?_
    refine lv_iload_n hx hb dX10_fewest_33 rfl (lv_at hl 5 rfl) ?_
    refine lv_iload_n hx hb dX10_fewest_34 rfl (lv_at hl 6 rfl) ?_
    refine lv_iload hx hb dX10_fewest_35 (lv_at hl 7 rfl) ?_
    refine lv_iload hx hb dX10_fewest_37 (lv_at hl 8 rfl) ?_
    refine lv_iload hx hb dX10_fewest_39 (lv_at hl 2 rfl) ?_
    refine pu_calll (runV (As := [.int v, .int w, .int d, .int sn, .int z, .int x2_9]) (rest := []) ⟨hx, hb, hml, hown, hts⟩ (t_X10_sends l D cy base τ G a h_a v ⟨by omega, by omega⟩ w ⟨by omega, by omega⟩ d ⟨by omega, by omega⟩ sn z ⟨by omega, by omega⟩ x2_9 ⟨by omega, by omega⟩ sa h_sa e_sa cr e_cr ⟨by omega, by omega⟩ (by show z.toInt + x2_9.toInt * cr.toInt ≤ 600; first | assumption | omega | decide)) sV_X10_396 hK (t_recv cf_11 hK hT h_a) ⟨Nat.le_trans hZ hS.1, hT⟩ ⟨Nat.le_of_ble_eq_true rfl, Nat.le_of_ble_eq_true rfl⟩ rfl hl.1 rfl (Nat.le_of_ble_eq_true rfl) dX10_fewest_41 ⟨Nat.le_of_ble_eq_true rfl, Nat.le_of_ble_eq_true rfl⟩) (fun r_5 hr_5 => ?_)
    refine lv_lstore (lv' := [(10, .long r_5), (6, .int x2_6), (7, .long x2_7), (9, .int x2_9), (0, .ref a), (1, .int v), (2, .int w), (3, .int d), (4, .int sn), (5, .int z)]) hx hb dX10_fewest_44 hl (by decide) rfl (fun ls hl => ?_)
    refine lv_lload hx hb dX10_fewest_46 (lv_at hl 0 rfl) ?_
    refine lv_lload hx hb dX10_fewest_48 (lv_at hl 2 rfl) ?_
    refine W.lcmp hx hb dX10_fewest_50 ?_
    refine lv_topi (fun z_6 ez_6 => ?_)
    have tz_6 : (z_6.toInt < 0 ↔ r_5.toInt < x2_7.toInt) ∧ (0 < z_6.toInt ↔ x2_7.toInt < r_5.toInt) ∧ -1 ≤ z_6.toInt ∧ z_6.toInt ≤ 1 := cmp_t ez_6
    refine lv_if_lt (tgt := 57) hx hb dX10_fewest_51 (by decide) (fun c_7 => ?_) (fun c_7 => ?_)
    · skip
      have tc_7 : z_6.toInt < 0 := (fa_lt _ _).mp c_7
      refine lv_iload hx hb dX10_fewest_57 (lv_at hl 3 rfl) ?_
      refine lv_istore (lv' := [(6, .int x2_9), (10, .long r_5), (7, .long x2_7), (9, .int x2_9), (0, .ref a), (1, .int v), (2, .int w), (3, .int d), (4, .int sn), (5, .int z)]) hx hb dX10_fewest_59 hl (by decide) rfl (fun ls hl => ?_)
      refine lv_lload hx hb dX10_fewest_61 (lv_at hl 1 rfl) ?_
      refine lv_lstore (lv' := [(7, .long r_5), (6, .int x2_9), (10, .long r_5), (9, .int x2_9), (0, .ref a), (1, .int v), (2, .int w), (3, .int d), (4, .int sn), (5, .int z)]) hx hb dX10_fewest_63 hl (by decide) rfl (fun ls hl => ?_)
      obtain ⟨z_8, ez_8⟩ : ∃ y : Int32, y = x2_9 + 1 := ⟨_, rfl⟩
      have tz_8 : z_8.toInt = x2_9.toInt + 1 := add_t ez_8 (show -2147483648 ≤ x2_9.toInt + 1 by omega) (show x2_9.toInt + 1 < 2147483648 by omega)
      refine lv_iinc (v := z_8) (lv' := [(9, .int z_8), (7, .long r_5), (6, .int x2_9), (10, .long r_5), (0, .ref a), (1, .int v), (2, .int w), (3, .int d), (4, .int sn), (5, .int z)]) hx hb dX10_fewest_65 hl (k := 3) rfl (by rw [ez_8]; rfl) (by decide) rfl (fun ls hl => ?_)
      refine lv_goto (tgt := 20) hx hb dX10_fewest_68 (by decide) ?_
      exact ih2 (x2_9, r_5, z_8) _ _ _ (by show (10 - z_8.toInt).toNat < (10 - x2_9.toInt).toNat; omega) ⟨(by show 0 ≤ x2_9.toInt; omega), (by show x2_9.toInt ≤ 9; omega), (by show 1 ≤ z_8.toInt; omega), (by show z_8.toInt ≤ 10; omega), by show 0 ≤ x2_9.toInt * cr.toInt; first | omega | assumption, by show z.toInt + x2_9.toInt * cr.toInt ≤ 600; first | omega | assumption, rfl, rfl, lv_sub hl [2, 1, 0, 4, 5, 6, 7, 8, 9] rfl⟩
    · skip
      have tc_7 : ¬ z_6.toInt < 0 := fun h => c_7 ((fa_lt _ _).mpr h)
      refine lv_goto (tgt := 65) hx hb dX10_fewest_54 (by decide) ?_
      obtain ⟨z_9, ez_9⟩ : ∃ y : Int32, y = x2_9 + 1 := ⟨_, rfl⟩
      have tz_9 : z_9.toInt = x2_9.toInt + 1 := add_t ez_9 (show -2147483648 ≤ x2_9.toInt + 1 by omega) (show x2_9.toInt + 1 < 2147483648 by omega)
      refine lv_iinc (v := z_9) (lv' := [(9, .int z_9), (10, .long r_5), (6, .int x2_6), (7, .long x2_7), (0, .ref a), (1, .int v), (2, .int w), (3, .int d), (4, .int sn), (5, .int z)]) hx hb dX10_fewest_65 hl (k := 3) rfl (by rw [ez_9]; rfl) (by decide) rfl (fun ls hl => ?_)
      refine lv_goto (tgt := 20) hx hb dX10_fewest_68 (by decide) ?_
      exact ih2 (x2_6, x2_7, z_9) _ _ _ (by show (10 - z_9.toInt).toNat < (10 - x2_9.toInt).toNat; omega) ⟨(by show 0 ≤ x2_6.toInt; omega), (by show x2_6.toInt ≤ 9; omega), (by show 1 ≤ z_9.toInt; omega), (by show z_9.toInt ≤ 10; omega), by show 0 ≤ x2_6.toInt * cr.toInt; first | omega | assumption, by show z.toInt + x2_6.toInt * cr.toInt ≤ 600; first | omega | assumption, rfl, rfl, lv_sub hl [2, 3, 0, 4, 5, 6, 7, 8, 9] rfl⟩
  · skip
    have er_3 := hr_3_1
    subst er_3
    refine W.eq (g2 := F0 m 28 ls [.int 0]) rfl ?_
    refine lv_if_eq (tgt := 71) hx hb dX10_fewest_28 (by decide) (fun _ => ?_) (fun c_10 => absurd (by decide) c_10)
    refine lv_iload hx hb dX10_fewest_71 (lv_at hl 0 rfl) ?_
    exact ret_i hx hb hr hlocks ⟨rfl, _, rfl, ⟨(by omega), (by omega), (by show 0 ≤ x2_6.toInt * cr.toInt; first | omega | assumption), (by show z.toInt + x2_6.toInt * cr.toInt ≤ 600; first | omega | assumption)⟩⟩ (fun _ h => absurd h List.not_mem_nil) (Nat.le_refl _) (Nat.le_refl _) dX10_fewest_73
set_option maxHeartbeats 4000000 in
set_option maxRecDepth 100000 in
theorem t_X10_comes (l : Launch) (D : va_G) (cy : Nat → ClassId) (base : Nat) (τ : Nat → Nat) (G : Gh) (a : Nat) (h_a : τ a = 11) (v : Int32) (r_v : 0 ≤ v.toInt ∧ v.toInt ≤ 5) (w : Int32) (r_w : 0 ≤ w.toInt ∧ w.toInt ≤ 2) : MM l yX10_comes cX10_comes 6 none 4 0 0 D cy [.ref a, .int v, .int w] (PT D cy base τ G) (QT D cy base τ G [88] (fun v g => v = none ∧ (True))) (RA base) := by
  refine MM.of (by decide) (Nat.le_of_ble_eq_true rfl) ?_
  intro p e s m below meth c C hPT ls hl
  obtain ⟨hx, hb, hr, hml, hown, hts, hlocks, hK, hnm⟩ := C
  obtain ⟨hZ, hT⟩ := hPT
  have hS : va_S (RA base) s.heap s.heap [] := va_S.rf
  have hF : Fr τ [88] G G := Fr.rf
  have hl : lv_has ls 6 [(0, .ref a), (1, .int v), (2, .int w)] := hl
  refine lv_iconst (v := 0) hx hb dX10_comes_0 (by decide) ?_
  refine lv_istore_n (lv' := [(3, .int 0), (0, .ref a), (1, .int v), (2, .int w)]) hx hb dX10_comes_1 rfl hl (by decide) rfl (fun ls hl => ?_)
  refine W.loop (σ := Int32 × Gh) (fun w1 H locs ls => 0 ≤ w1.1.toInt ∧ w1.1.toInt ≤ 601 ∧ Fr τ [88] G w1.2 ∧ TY D cy base τ w1.2 H ∧ va_S (RA base) s.heap H locs ∧ lv_has ls 6 [(3, .int w1.1), (0, .ref a), (1, .int v), (2, .int w)]) (fun w1 => (601 - w1.1.toInt).toNat) ?_ ((0 : Int32), G) _ _ _ ⟨(by show 0 ≤ (0 : Int32).toInt; decide), (by show (0 : Int32).toInt ≤ 601; decide), hF, hT, hS, lv_sub hl [0, 1, 2, 3] rfl⟩
  intro w1 H locs ls hI ih1
  obtain ⟨x1_3, G_1⟩ := w1
  obtain ⟨i1_0, i1_1, hF, hT, hS, hl⟩ := hI
  have i1_0 : 0 ≤ x1_3.toInt := i1_0
  have i1_1 : x1_3.toInt ≤ 601 := i1_1
  have hF : Fr τ [88] G G_1 := hF
  have hT : TY D cy base τ G_1 H := hT
  have hS : va_S (RA base) s.heap H locs := hS
  have hl : lv_has ls 6 [(3, .int x1_3), (0, .ref a), (1, .int v), (2, .int w)] := hl
  refine lv_iload_n hx hb dX10_comes_2 rfl (lv_at hl 0 rfl) ?_
  refine lv_sipush (v := 600) hx hb dX10_comes_3 (by decide) ?_
  refine lv_icmp_gt (tgt := 73) hx hb dX10_comes_6 (by decide) (fun c_2 => ?_) (fun c_2 => ?_)
  · skip
    have tc_2 : 600 < x1_3.toInt := (fa_lt _ _).mp c_2
    refine lv_aload_n hx hb dX10_comes_73 rfl (lv_at hl 1 rfl) ?_
    obtain ⟨q_3, eq_3, hq_3⟩ := (show ∃ q, G_1.2.2.1 a 17 = some q ∧ τ q = 67 from hT.rgr h_a (by decide) 17)
    have eq_3 := (hF.r h_a (by decide) rfl _).symm.trans eq_3
    obtain ⟨z_4, ez_4⟩ : ∃ y : Int32, y = G_1.1 q_3 0 := ⟨_, rfl⟩
    have qz_4 : (0 % 4 = 0 → 0 ≤ z_4.toInt ∧ z_4.toInt ≤ 60) := by rw [ez_4]; exact hT.rgi hq_3 (by decide) 0
    have rz_4 : 0 ≤ z_4.toInt ∧ z_4.toInt ≤ 60 := by omega
    have ez_4 : z_4 = G.1 q_3 0 := ez_4.trans (hF.i hq_3 (by decide) rfl _)
    refine pu_calli (runV (As := []) (rest := []) ⟨hx, hb, hml, hown, hts⟩ (t_X10_lastDay l D cy base τ G_1 a h_a q_3 hq_3 ((hF.r h_a (by decide) rfl _).trans eq_3) z_4 (ez_4.trans (hF.i hq_3 (by decide) rfl _).symm) ⟨by omega, by omega⟩) sV_X10_278 hK (t_recv cf_11 hK hT h_a) ⟨Nat.le_trans hZ hS.1, hT⟩ ⟨Nat.le_of_ble_eq_true rfl, Nat.le_of_ble_eq_true rfl⟩ rfl hl.1 rfl (Nat.le_of_ble_eq_true rfl) dX10_comes_74 ⟨Nat.le_of_ble_eq_true rfl, Nat.le_of_ble_eq_true rfl⟩) (fun r_5 hr_5 => ?_)
    have er_5 := hr_5
    have er_5 := er_5.symm
    subst er_5
    refine W.eq (g2 := F0 m 77 ls [.int z_4]) rfl ?_
    refine lv_istore_n (lv' := [(3, .int z_4), (0, .ref a), (1, .int v), (2, .int w)]) hx hb dX10_comes_77 rfl hl (by decide) rfl (fun ls hl => ?_)
    refine W.loop (σ := Int32 × Gh) (fun w6 H locs ls => 0 ≤ w6.1.toInt ∧ w6.1.toInt ≤ 60 ∧ Fr τ [88] G w6.2 ∧ TY D cy base τ w6.2 H ∧ va_S (RA base) s.heap H locs ∧ lv_has ls 6 [(3, .int w6.1), (0, .ref a), (1, .int v), (2, .int w)]) (fun w6 => w6.1.toInt.toNat) ?_ (z_4, G_1) _ _ _ ⟨(by show 0 ≤ z_4.toInt; omega), (by show z_4.toInt ≤ 60; omega), hF, hT, hS, lv_sub hl [0, 1, 2, 3] rfl⟩
    intro w6 H locs ls hI ih6
    obtain ⟨x6_3, G_6⟩ := w6
    obtain ⟨i6_0, i6_1, hF, hT, hS, hl⟩ := hI
    have i6_0 : 0 ≤ x6_3.toInt := i6_0
    have i6_1 : x6_3.toInt ≤ 60 := i6_1
    have hF : Fr τ [88] G G_6 := hF
    have hT : TY D cy base τ G_6 H := hT
    have hS : va_S (RA base) s.heap H locs := hS
    have hl : lv_has ls 6 [(3, .int x6_3), (0, .ref a), (1, .int v), (2, .int w)] := hl
    refine lv_iload_n hx hb dX10_comes_78 rfl (lv_at hl 0 rfl) ?_
    refine lv_if_le (tgt := 182) hx hb dX10_comes_79 (by decide) (fun c_7 => ?_) (fun c_7 => ?_)
    · skip
      have tc_7 : x6_3.toInt ≤ 0 := (fa_le _ _).mp c_7
      exact ret_v hx hb hr hlocks ⟨⟨hS.1, hS.2.1⟩, G_6, hF, ⟨rfl, trivial⟩, hT⟩ hS.2.2 (Nat.le_of_ble_eq_true rfl) (Nat.le_of_ble_eq_true rfl) dX10_comes_182
    · skip
      have tc_7 : ¬ x6_3.toInt ≤ 0 := fun h => c_7 ((fa_le _ _).mpr h)
      refine lv_iconst (v := 0) hx hb dX10_comes_82 (by decide) ?_
      refine lv_istore (lv' := [(4, .int 0), (3, .int x6_3), (0, .ref a), (1, .int v), (2, .int w)]) hx hb dX10_comes_83 hl (by decide) rfl (fun ls hl => ?_)
      refine W.loop (σ := Int32 × Gh) (fun w8 H locs ls => 0 ≤ w8.1.toInt ∧ w8.1.toInt ≤ 2 ∧ Fr τ [88] G w8.2 ∧ TY D cy base τ w8.2 H ∧ va_S (RA base) s.heap H locs ∧ lv_has ls 6 [(4, .int w8.1), (3, .int x6_3), (0, .ref a), (1, .int v), (2, .int w)]) (fun w8 => (2 - w8.1.toInt).toNat) ?_ ((0 : Int32), G_6) _ _ _ ⟨(by show 0 ≤ (0 : Int32).toInt; decide), (by show (0 : Int32).toInt ≤ 2; decide), hF, hT, hS, lv_sub hl [0, 1, 2, 3, 4] rfl⟩
      intro w8 H locs ls hI ih8
      obtain ⟨x8_4, G_8⟩ := w8
      obtain ⟨i8_0, i8_1, hF, hT, hS, hl⟩ := hI
      have i8_0 : 0 ≤ x8_4.toInt := i8_0
      have i8_1 : x8_4.toInt ≤ 2 := i8_1
      have hF : Fr τ [88] G G_8 := hF
      have hT : TY D cy base τ G_8 H := hT
      have hS : va_S (RA base) s.heap H locs := hS
      have hl : lv_has ls 6 [(4, .int x8_4), (3, .int x6_3), (0, .ref a), (1, .int v), (2, .int w)] := hl
      refine lv_iload hx hb dX10_comes_85 (lv_at hl 0 rfl) ?_
      refine lv_iconst (v := 2) hx hb dX10_comes_87 (by decide) ?_
      refine lv_icmp_ge (tgt := 176) hx hb dX10_comes_88 (by decide) (fun c_9 => ?_) (fun c_9 => ?_)
      · skip
        have tc_9 : 2 ≤ x8_4.toInt := (fa_le _ _).mp c_9
        obtain ⟨z_10, ez_10⟩ : ∃ y : Int32, y = x6_3 + (-1) := ⟨_, rfl⟩
        have tz_10 : z_10.toInt = x6_3.toInt + -1 := add_t ez_10 (show -2147483648 ≤ x6_3.toInt + -1 by omega) (show x6_3.toInt + -1 < 2147483648 by omega)
        refine lv_iinc (v := z_10) (lv' := [(3, .int z_10), (4, .int x8_4), (0, .ref a), (1, .int v), (2, .int w)]) hx hb dX10_comes_176 hl (k := 1) rfl (by rw [ez_10]; rfl) (by decide) rfl (fun ls hl => ?_)
        refine lv_goto (tgt := 78) hx hb dX10_comes_179 (by decide) ?_
        exact ih6 (z_10, G_8) _ _ _ (by show z_10.toInt.toNat < x6_3.toInt.toNat; omega) ⟨(by show 0 ≤ z_10.toInt; omega), (by show z_10.toInt ≤ 60; omega), hF, hT, hS, lv_sub hl [0, 2, 3, 4] rfl⟩
      · skip
        have tc_9 : ¬ 2 ≤ x8_4.toInt := fun h => c_9 ((fa_le _ _).mpr h)
        refine lv_iconst (v := 0) hx hb dX10_comes_91 (by decide) ?_
        refine lv_istore (lv' := [(5, .int 0), (4, .int x8_4), (3, .int x6_3), (0, .ref a), (1, .int v), (2, .int w)]) hx hb dX10_comes_92 hl (by decide) rfl (fun ls hl => ?_)
        refine W.loop (σ := Int32 × Gh) (fun w11 H locs ls => 0 ≤ w11.1.toInt ∧ w11.1.toInt ≤ 601 ∧ Fr τ [88] G w11.2 ∧ TY D cy base τ w11.2 H ∧ va_S (RA base) s.heap H locs ∧ lv_has ls 6 [(5, .int w11.1), (4, .int x8_4), (3, .int x6_3), (0, .ref a), (1, .int v), (2, .int w)]) (fun w11 => (601 - w11.1.toInt).toNat) ?_ ((0 : Int32), G_8) _ _ _ ⟨(by show 0 ≤ (0 : Int32).toInt; decide), (by show (0 : Int32).toInt ≤ 601; decide), hF, hT, hS, lv_sub hl [0, 1, 2, 3, 4, 5] rfl⟩
        intro w11 H locs ls hI ih11
        obtain ⟨x11_5, G_11⟩ := w11
        obtain ⟨i11_0, i11_1, hF, hT, hS, hl⟩ := hI
        have i11_0 : 0 ≤ x11_5.toInt := i11_0
        have i11_1 : x11_5.toInt ≤ 601 := i11_1
        have hF : Fr τ [88] G G_11 := hF
        have hT : TY D cy base τ G_11 H := hT
        have hS : va_S (RA base) s.heap H locs := hS
        have hl : lv_has ls 6 [(5, .int x11_5), (4, .int x8_4), (3, .int x6_3), (0, .ref a), (1, .int v), (2, .int w)] := hl
        refine lv_iload hx hb dX10_comes_94 (lv_at hl 0 rfl) ?_
        refine lv_sipush (v := 600) hx hb dX10_comes_96 (by decide) ?_
        refine lv_icmp_gt (tgt := 170) hx hb dX10_comes_99 (by decide) (fun c_12 => ?_) (fun c_12 => ?_)
        · skip
          have tc_12 : 600 < x11_5.toInt := (fa_lt _ _).mp c_12
          obtain ⟨z_13, ez_13⟩ : ∃ y : Int32, y = x8_4 + 1 := ⟨_, rfl⟩
          have tz_13 : z_13.toInt = x8_4.toInt + 1 := add_t ez_13 (show -2147483648 ≤ x8_4.toInt + 1 by omega) (show x8_4.toInt + 1 < 2147483648 by omega)
          refine lv_iinc (v := z_13) (lv' := [(4, .int z_13), (5, .int x11_5), (3, .int x6_3), (0, .ref a), (1, .int v), (2, .int w)]) hx hb dX10_comes_170 hl (k := 1) rfl (by rw [ez_13]; rfl) (by decide) rfl (fun ls hl => ?_)
          refine lv_goto (tgt := 85) hx hb dX10_comes_173 (by decide) ?_
          exact ih8 (z_13, G_11) _ _ _ (by show (2 - z_13.toInt).toNat < (2 - x8_4.toInt).toNat; omega) ⟨(by show 0 ≤ z_13.toInt; omega), (by show z_13.toInt ≤ 2; omega), hF, hT, hS, lv_sub hl [0, 2, 3, 4, 5] rfl⟩
        · skip
          have tc_12 : ¬ 600 < x11_5.toInt := fun h => c_12 ((fa_lt _ _).mpr h)
          refine lv_aload_n hx hb dX10_comes_102 rfl (lv_at hl 3 rfl) ?_
          refine t_getr cf_11 hx hb hts hown hK hT h_a (k := 38) (P := fun q => τ q = 88) rfl (fun _ h9 => h9) fl_X10_99 (fun _ h9 => h9) dX10_comes_103 (fun q_14 eq_14 hq_14 => ?_)
          have eq_14 := (hF.r h_a (by decide) rfl _).symm.trans eq_14
          refine lv_iload_n hx hb dX10_comes_106 rfl (lv_at hl 2 rfl) ?_
          refine lv_iload hx hb dX10_comes_107 (lv_at hl 1 rfl) ?_
          refine lv_iconst (v := 1) hx hb dX10_comes_109 (by decide) ?_
          refine lv_icmp_ne (tgt := 117) hx hb dX10_comes_110 (by decide) (fun c_15 => ?_) (fun c_15 => ?_)
          · skip
            have tc_15 : ¬ x8_4.toInt = 1 := fun h => c_15 ((fa_eq _ _).mpr h)
            refine lv_iconst (v := 0) hx hb dX10_comes_117 (by decide) ?_
            refine lv_iload hx hb dX10_comes_118 (lv_at hl 0 rfl) ?_
            refine pu_calli (runS (As := [.int x6_3, .int 0, .int x11_5]) (rest := [.ref q_14]) ⟨hx, hb, hml, hown, hts⟩ (t_X10_at3 l D cy base τ G_11 x6_3 ⟨by omega, by omega⟩ 0 (by decide) x11_5 ⟨by omega, by omega⟩) sS_X10_392 hK ⟨Nat.le_trans hZ hS.1, hT⟩ ⟨Nat.le_of_ble_eq_true rfl, Nat.le_of_ble_eq_true rfl⟩ rfl hl.1 rfl (Nat.le_of_ble_eq_true rfl) dX10_comes_120 ⟨Nat.le_of_ble_eq_true rfl, Nat.le_of_ble_eq_true rfl⟩) (fun r_16 hr_16 => ?_)
            obtain ⟨hr_16_lo, hr_16_hi⟩ := hr_16
            have hr_16_lo : 0 ≤ r_16.toInt := hr_16_lo
            have hr_16_hi : r_16.toInt ≤ 74523 := hr_16_hi
            refine lv_aload_n hx hb dX10_comes_123 rfl (lv_at hl 3 rfl) ?_
            refine lv_iload_n hx hb dX10_comes_124 rfl (lv_at hl 4 rfl) ?_
            refine lv_iload_n hx hb dX10_comes_125 rfl (lv_at hl 5 rfl) ?_
            refine lv_iload_n hx hb dX10_comes_126 rfl (lv_at hl 2 rfl) ?_
            refine lv_iload hx hb dX10_comes_127 (lv_at hl 1 rfl) ?_
            refine lv_iconst (v := 1) hx hb dX10_comes_129 (by decide) ?_
            refine lv_icmp_ne (tgt := 137) hx hb dX10_comes_130 (by decide) (fun c_17 => ?_) (fun c_17 => ?_)
            · skip
              have tc_17 : ¬ x8_4.toInt = 1 := fun h => c_17 ((fa_eq _ _).mpr h)
              refine lv_iconst (v := 0) hx hb dX10_comes_137 (by decide) ?_
              refine lv_iload hx hb dX10_comes_138 (lv_at hl 0 rfl) ?_
              refine lv_aload_n hx hb dX10_comes_140 rfl (lv_at hl 3 rfl) ?_
              refine lv_iload_n hx hb dX10_comes_141 rfl (lv_at hl 4 rfl) ?_
              refine lv_iload_n hx hb dX10_comes_142 rfl (lv_at hl 5 rfl) ?_
              refine lv_iload_n hx hb dX10_comes_143 rfl (lv_at hl 2 rfl) ?_
              refine lv_iload hx hb dX10_comes_144 (lv_at hl 1 rfl) ?_
              refine lv_iconst (v := 1) hx hb dX10_comes_146 (by decide) ?_
              refine lv_icmp_ne (tgt := 154) hx hb dX10_comes_147 (by decide) (fun c_18 => ?_) (fun c_18 => ?_)
              · skip
                have tc_18 : ¬ x8_4.toInt = 1 := fun h => c_18 ((fa_eq _ _).mpr h)
                refine lv_iconst (v := 0) hx hb dX10_comes_154 (by decide) ?_
                refine lv_iload hx hb dX10_comes_155 (lv_at hl 0 rfl) ?_
                obtain ⟨q_19, eq_19, hq_19⟩ := (show ∃ q, G_11.2.2.1 a 24 = some q ∧ τ q = 74 from hT.rgr h_a (by decide) 24)
                have eq_19 := (hF.r h_a (by decide) rfl _).symm.trans eq_19
                obtain ⟨z_20, ez_20⟩ : ∃ y : Int32, y = G_11.1 q_19 1 := ⟨_, rfl⟩
                have qz_20 : (1 % 6 = 0 → 0 ≤ z_20.toInt ∧ z_20.toInt ≤ 9) ∧ (1 % 6 = 1 → 0 ≤ z_20.toInt ∧ z_20.toInt ≤ 50) ∧ (1 % 6 = 3 → 0 ≤ z_20.toInt ∧ z_20.toInt ≤ 50) := by rw [ez_20]; exact hT.rgi hq_19 (by decide) 1
                have rz_20 : 0 ≤ z_20.toInt ∧ z_20.toInt ≤ 50 := by omega
                have ez_20 : z_20 = G.1 q_19 1 := ez_20.trans (hF.i hq_19 (by decide) rfl _)
                refine pu_calli (runV (As := [.int v, .int w, .int x6_3, .int 0, .int x11_5]) (rest := [.int x11_5, .int 0, .int x6_3, .int w, .int v, .ref a, .int r_16, .ref q_14]) ⟨hx, hb, hml, hown, hts⟩ (t_X10_fewest l D cy base τ G_11 a h_a v ⟨by omega, by omega⟩ w ⟨by omega, by omega⟩ x6_3 ⟨by omega, by omega⟩ 0 x11_5 ⟨by omega, by omega⟩ q_19 hq_19 ((hF.r h_a (by decide) rfl _).trans eq_19) z_20 (ez_20.trans (hF.i hq_19 (by decide) rfl _).symm) ⟨by omega, by omega⟩) sV_X10_403 hK (t_recv cf_11 hK hT h_a) ⟨Nat.le_trans hZ hS.1, hT⟩ ⟨Nat.le_of_ble_eq_true rfl, Nat.le_of_ble_eq_true rfl⟩ rfl hl.1 rfl (Nat.le_of_ble_eq_true rfl) dX10_comes_157 ⟨Nat.le_of_ble_eq_true rfl, Nat.le_of_ble_eq_true rfl⟩) (fun r_21 hr_21 => ?_)
                obtain ⟨hr_21_lo, hr_21_hi, hr_21_p0, hr_21_p1⟩ := hr_21
                have hr_21_lo : 0 ≤ r_21.toInt := hr_21_lo
                have hr_21_hi : r_21.toInt ≤ 9 := hr_21_hi
                have hr_21_p0 : 0 ≤ r_21.toInt * z_20.toInt := hr_21_p0
                have hr_21_p1 : x11_5.toInt + r_21.toInt * z_20.toInt ≤ 600 := hr_21_p1
                refine pu_calll (runV (As := [.int v, .int w, .int x6_3, .int 0, .int x11_5, .int r_21]) (rest := [.int r_16, .ref q_14]) ⟨hx, hb, hml, hown, hts⟩ (t_X10_sends l D cy base τ G_11 a h_a v ⟨by omega, by omega⟩ w ⟨by omega, by omega⟩ x6_3 ⟨by omega, by omega⟩ 0 x11_5 ⟨by omega, by omega⟩ r_21 ⟨by omega, by omega⟩ q_19 hq_19 ((hF.r h_a (by decide) rfl _).trans eq_19) z_20 (ez_20.trans (hF.i hq_19 (by decide) rfl _).symm) ⟨by omega, by omega⟩ (by show x11_5.toInt + r_21.toInt * z_20.toInt ≤ 600; first | assumption | omega | decide)) sV_X10_396 hK (t_recv cf_11 hK hT h_a) ⟨Nat.le_trans hZ hS.1, hT⟩ ⟨Nat.le_of_ble_eq_true rfl, Nat.le_of_ble_eq_true rfl⟩ rfl hl.1 rfl (Nat.le_of_ble_eq_true rfl) dX10_comes_160 ⟨Nat.le_of_ble_eq_true rfl, Nat.le_of_ble_eq_true rfl⟩) (fun r_22 hr_22 => ?_)
                refine t_last (n := 75000) (i := r_16) (x := r_22) rfl (by decide) hx hb hK hT hS hq_14 (hT.len hq_14 (by decide)) ⟨by omega, by omega⟩ dX10_comes_163 (fun H locs G_23 eG_23 hT hS => ?_)
                have hF := hF.wL eG_23 hq_14 rfl
                obtain ⟨z_24, ez_24⟩ : ∃ y : Int32, y = x11_5 + 1 := ⟨_, rfl⟩
                have tz_24 : z_24.toInt = x11_5.toInt + 1 := add_t ez_24 (show -2147483648 ≤ x11_5.toInt + 1 by omega) (show x11_5.toInt + 1 < 2147483648 by omega)
                refine lv_iinc (v := z_24) (lv' := [(5, .int z_24), (4, .int x8_4), (3, .int x6_3), (0, .ref a), (1, .int v), (2, .int w)]) hx hb dX10_comes_164 hl (k := 0) rfl (by rw [ez_24]; rfl) (by decide) rfl (fun ls hl => ?_)
                refine lv_goto (tgt := 94) hx hb dX10_comes_167 (by decide) ?_
                exact ih11 (z_24, G_23) _ _ _ (by show (601 - z_24.toInt).toNat < (601 - x11_5.toInt).toNat; omega) ⟨(by show 0 ≤ z_24.toInt; omega), (by show z_24.toInt ≤ 601; omega), hF, hT, hS, lv_sub hl [0, 1, 2, 3, 4, 5] rfl⟩
              · skip
                have tc_18 : x8_4.toInt = 1 := (fa_eq _ _).mp c_18
                exfalso; omega
            · skip
              have tc_17 : x8_4.toInt = 1 := (fa_eq _ _).mp c_17
              exfalso; omega
          · skip
            have tc_15 : x8_4.toInt = 1 := (fa_eq _ _).mp c_15
            refine lv_iconst (v := 1) hx hb dX10_comes_113 (by decide) ?_
            refine lv_goto (tgt := 118) hx hb dX10_comes_114 (by decide) ?_
            refine lv_iload hx hb dX10_comes_118 (lv_at hl 0 rfl) ?_
            refine pu_calli (runS (As := [.int x6_3, .int 1, .int x11_5]) (rest := [.ref q_14]) ⟨hx, hb, hml, hown, hts⟩ (t_X10_at3 l D cy base τ G_11 x6_3 ⟨by omega, by omega⟩ 1 (by decide) x11_5 ⟨by omega, by omega⟩) sS_X10_392 hK ⟨Nat.le_trans hZ hS.1, hT⟩ ⟨Nat.le_of_ble_eq_true rfl, Nat.le_of_ble_eq_true rfl⟩ rfl hl.1 rfl (Nat.le_of_ble_eq_true rfl) dX10_comes_120 ⟨Nat.le_of_ble_eq_true rfl, Nat.le_of_ble_eq_true rfl⟩) (fun r_25 hr_25 => ?_)
            obtain ⟨hr_25_lo, hr_25_hi⟩ := hr_25
            have hr_25_lo : 0 ≤ r_25.toInt := hr_25_lo
            have hr_25_hi : r_25.toInt ≤ 74523 := hr_25_hi
            refine lv_aload_n hx hb dX10_comes_123 rfl (lv_at hl 3 rfl) ?_
            refine lv_iload_n hx hb dX10_comes_124 rfl (lv_at hl 4 rfl) ?_
            refine lv_iload_n hx hb dX10_comes_125 rfl (lv_at hl 5 rfl) ?_
            refine lv_iload_n hx hb dX10_comes_126 rfl (lv_at hl 2 rfl) ?_
            refine lv_iload hx hb dX10_comes_127 (lv_at hl 1 rfl) ?_
            refine lv_iconst (v := 1) hx hb dX10_comes_129 (by decide) ?_
            refine lv_icmp_ne (tgt := 137) hx hb dX10_comes_130 (by decide) (fun c_26 => ?_) (fun c_26 => ?_)
            · skip
              have tc_26 : ¬ x8_4.toInt = 1 := fun h => c_26 ((fa_eq _ _).mpr h)
              exfalso; omega
            · skip
              have tc_26 : x8_4.toInt = 1 := (fa_eq _ _).mp c_26
              refine lv_iconst (v := 1) hx hb dX10_comes_133 (by decide) ?_
              refine lv_goto (tgt := 138) hx hb dX10_comes_134 (by decide) ?_
              refine lv_iload hx hb dX10_comes_138 (lv_at hl 0 rfl) ?_
              refine lv_aload_n hx hb dX10_comes_140 rfl (lv_at hl 3 rfl) ?_
              refine lv_iload_n hx hb dX10_comes_141 rfl (lv_at hl 4 rfl) ?_
              refine lv_iload_n hx hb dX10_comes_142 rfl (lv_at hl 5 rfl) ?_
              refine lv_iload_n hx hb dX10_comes_143 rfl (lv_at hl 2 rfl) ?_
              refine lv_iload hx hb dX10_comes_144 (lv_at hl 1 rfl) ?_
              refine lv_iconst (v := 1) hx hb dX10_comes_146 (by decide) ?_
              refine lv_icmp_ne (tgt := 154) hx hb dX10_comes_147 (by decide) (fun c_27 => ?_) (fun c_27 => ?_)
              · skip
                have tc_27 : ¬ x8_4.toInt = 1 := fun h => c_27 ((fa_eq _ _).mpr h)
                exfalso; omega
              · skip
                have tc_27 : x8_4.toInt = 1 := (fa_eq _ _).mp c_27
                refine lv_iconst (v := 1) hx hb dX10_comes_150 (by decide) ?_
                refine lv_goto (tgt := 155) hx hb dX10_comes_151 (by decide) ?_
                refine lv_iload hx hb dX10_comes_155 (lv_at hl 0 rfl) ?_
                obtain ⟨q_28, eq_28, hq_28⟩ := (show ∃ q, G_11.2.2.1 a 24 = some q ∧ τ q = 74 from hT.rgr h_a (by decide) 24)
                have eq_28 := (hF.r h_a (by decide) rfl _).symm.trans eq_28
                obtain ⟨z_29, ez_29⟩ : ∃ y : Int32, y = G_11.1 q_28 1 := ⟨_, rfl⟩
                have qz_29 : (1 % 6 = 0 → 0 ≤ z_29.toInt ∧ z_29.toInt ≤ 9) ∧ (1 % 6 = 1 → 0 ≤ z_29.toInt ∧ z_29.toInt ≤ 50) ∧ (1 % 6 = 3 → 0 ≤ z_29.toInt ∧ z_29.toInt ≤ 50) := by rw [ez_29]; exact hT.rgi hq_28 (by decide) 1
                have rz_29 : 0 ≤ z_29.toInt ∧ z_29.toInt ≤ 50 := by omega
                have ez_29 : z_29 = G.1 q_28 1 := ez_29.trans (hF.i hq_28 (by decide) rfl _)
                refine pu_calli (runV (As := [.int v, .int w, .int x6_3, .int 1, .int x11_5]) (rest := [.int x11_5, .int 1, .int x6_3, .int w, .int v, .ref a, .int r_25, .ref q_14]) ⟨hx, hb, hml, hown, hts⟩ (t_X10_fewest l D cy base τ G_11 a h_a v ⟨by omega, by omega⟩ w ⟨by omega, by omega⟩ x6_3 ⟨by omega, by omega⟩ 1 x11_5 ⟨by omega, by omega⟩ q_28 hq_28 ((hF.r h_a (by decide) rfl _).trans eq_28) z_29 (ez_29.trans (hF.i hq_28 (by decide) rfl _).symm) ⟨by omega, by omega⟩) sV_X10_403 hK (t_recv cf_11 hK hT h_a) ⟨Nat.le_trans hZ hS.1, hT⟩ ⟨Nat.le_of_ble_eq_true rfl, Nat.le_of_ble_eq_true rfl⟩ rfl hl.1 rfl (Nat.le_of_ble_eq_true rfl) dX10_comes_157 ⟨Nat.le_of_ble_eq_true rfl, Nat.le_of_ble_eq_true rfl⟩) (fun r_30 hr_30 => ?_)
                obtain ⟨hr_30_lo, hr_30_hi, hr_30_p0, hr_30_p1⟩ := hr_30
                have hr_30_lo : 0 ≤ r_30.toInt := hr_30_lo
                have hr_30_hi : r_30.toInt ≤ 9 := hr_30_hi
                have hr_30_p0 : 0 ≤ r_30.toInt * z_29.toInt := hr_30_p0
                have hr_30_p1 : x11_5.toInt + r_30.toInt * z_29.toInt ≤ 600 := hr_30_p1
                refine pu_calll (runV (As := [.int v, .int w, .int x6_3, .int 1, .int x11_5, .int r_30]) (rest := [.int r_25, .ref q_14]) ⟨hx, hb, hml, hown, hts⟩ (t_X10_sends l D cy base τ G_11 a h_a v ⟨by omega, by omega⟩ w ⟨by omega, by omega⟩ x6_3 ⟨by omega, by omega⟩ 1 x11_5 ⟨by omega, by omega⟩ r_30 ⟨by omega, by omega⟩ q_28 hq_28 ((hF.r h_a (by decide) rfl _).trans eq_28) z_29 (ez_29.trans (hF.i hq_28 (by decide) rfl _).symm) ⟨by omega, by omega⟩ (by show x11_5.toInt + r_30.toInt * z_29.toInt ≤ 600; first | assumption | omega | decide)) sV_X10_396 hK (t_recv cf_11 hK hT h_a) ⟨Nat.le_trans hZ hS.1, hT⟩ ⟨Nat.le_of_ble_eq_true rfl, Nat.le_of_ble_eq_true rfl⟩ rfl hl.1 rfl (Nat.le_of_ble_eq_true rfl) dX10_comes_160 ⟨Nat.le_of_ble_eq_true rfl, Nat.le_of_ble_eq_true rfl⟩) (fun r_31 hr_31 => ?_)
                refine t_last (n := 75000) (i := r_25) (x := r_31) rfl (by decide) hx hb hK hT hS hq_14 (hT.len hq_14 (by decide)) ⟨by omega, by omega⟩ dX10_comes_163 (fun H locs G_32 eG_32 hT hS => ?_)
                have hF := hF.wL eG_32 hq_14 rfl
                obtain ⟨z_33, ez_33⟩ : ∃ y : Int32, y = x11_5 + 1 := ⟨_, rfl⟩
                have tz_33 : z_33.toInt = x11_5.toInt + 1 := add_t ez_33 (show -2147483648 ≤ x11_5.toInt + 1 by omega) (show x11_5.toInt + 1 < 2147483648 by omega)
                refine lv_iinc (v := z_33) (lv' := [(5, .int z_33), (4, .int x8_4), (3, .int x6_3), (0, .ref a), (1, .int v), (2, .int w)]) hx hb dX10_comes_164 hl (k := 0) rfl (by rw [ez_33]; rfl) (by decide) rfl (fun ls hl => ?_)
                refine lv_goto (tgt := 94) hx hb dX10_comes_167 (by decide) ?_
                exact ih11 (z_33, G_32) _ _ _ (by show (601 - z_33.toInt).toNat < (601 - x11_5.toInt).toNat; omega) ⟨(by show 0 ≤ z_33.toInt; omega), (by show z_33.toInt ≤ 601; omega), hF, hT, hS, lv_sub hl [0, 1, 2, 3, 4, 5] rfl⟩
  · skip
    have tc_2 : ¬ 600 < x1_3.toInt := fun h => c_2 ((fa_lt _ _).mpr h)
    refine lv_aload_n hx hb dX10_comes_9 rfl (lv_at hl 1 rfl) ?_
    refine t_getr cf_11 hx hb hts hown hK hT h_a (k := 38) (P := fun q => τ q = 88) rfl (fun _ h9 => h9) fl_X10_99 (fun _ h9 => h9) dX10_comes_10 (fun q_34 eq_34 hq_34 => ?_)
    have eq_34 := (hF.r h_a (by decide) rfl _).symm.trans eq_34
    refine lv_aload_n hx hb dX10_comes_13 rfl (lv_at hl 1 rfl) ?_
    obtain ⟨q_35, eq_35, hq_35⟩ := (show ∃ q, G_1.2.2.1 a 17 = some q ∧ τ q = 67 from hT.rgr h_a (by decide) 17)
    have eq_35 := (hF.r h_a (by decide) rfl _).symm.trans eq_35
    obtain ⟨z_36, ez_36⟩ : ∃ y : Int32, y = G_1.1 q_35 0 := ⟨_, rfl⟩
    have qz_36 : (0 % 4 = 0 → 0 ≤ z_36.toInt ∧ z_36.toInt ≤ 60) := by rw [ez_36]; exact hT.rgi hq_35 (by decide) 0
    have rz_36 : 0 ≤ z_36.toInt ∧ z_36.toInt ≤ 60 := by omega
    have ez_36 : z_36 = G.1 q_35 0 := ez_36.trans (hF.i hq_35 (by decide) rfl _)
    refine pu_calli (runV (As := []) (rest := [.ref q_34]) ⟨hx, hb, hml, hown, hts⟩ (t_X10_lastDay l D cy base τ G_1 a h_a q_35 hq_35 ((hF.r h_a (by decide) rfl _).trans eq_35) z_36 (ez_36.trans (hF.i hq_35 (by decide) rfl _).symm) ⟨by omega, by omega⟩) sV_X10_278 hK (t_recv cf_11 hK hT h_a) ⟨Nat.le_trans hZ hS.1, hT⟩ ⟨Nat.le_of_ble_eq_true rfl, Nat.le_of_ble_eq_true rfl⟩ rfl hl.1 rfl (Nat.le_of_ble_eq_true rfl) dX10_comes_14 ⟨Nat.le_of_ble_eq_true rfl, Nat.le_of_ble_eq_true rfl⟩) (fun r_37 hr_37 => ?_)
    have er_37 := hr_37
    have er_37 := er_37.symm
    subst er_37
    refine W.eq (g2 := F0 m 17 ls [.int z_36, .ref q_34]) rfl ?_
    refine lv_iconst (v := 1) hx hb dX10_comes_17 (by decide) ?_
    refine lv_iadd hx hb dX10_comes_18 ?_
    refine lv_topi (fun z_38 ez_38 => ?_)
    have tz_38 : z_38.toInt = z_36.toInt + 1 := add_t ez_38 (show -2147483648 ≤ z_36.toInt + 1 by omega) (show z_36.toInt + 1 < 2147483648 by omega)
    refine lv_iconst (v := 0) hx hb dX10_comes_19 (by decide) ?_
    refine lv_iload_n hx hb dX10_comes_20 rfl (lv_at hl 0 rfl) ?_
    refine pu_calli (runS (As := [.int z_38, .int 0, .int x1_3]) (rest := [.ref q_34]) ⟨hx, hb, hml, hown, hts⟩ (t_X10_at3 l D cy base τ G_1 z_38 ⟨by omega, by omega⟩ 0 (by decide) x1_3 ⟨by omega, by omega⟩) sS_X10_392 hK ⟨Nat.le_trans hZ hS.1, hT⟩ ⟨Nat.le_of_ble_eq_true rfl, Nat.le_of_ble_eq_true rfl⟩ rfl hl.1 rfl (Nat.le_of_ble_eq_true rfl) dX10_comes_21 ⟨Nat.le_of_ble_eq_true rfl, Nat.le_of_ble_eq_true rfl⟩) (fun r_39 hr_39 => ?_)
    obtain ⟨hr_39_lo, hr_39_hi⟩ := hr_39
    have hr_39_lo : 0 ≤ r_39.toInt := hr_39_lo
    have hr_39_hi : r_39.toInt ≤ 74523 := hr_39_hi
    refine lv_ldc2 (v := 1000) hx hb hown (hts _ kl_X10_343) dX10_comes_24 ?_
    refine lv_aload_n hx hb dX10_comes_27 rfl (lv_at hl 1 rfl) ?_
    refine lv_iload_n hx hb dX10_comes_28 rfl (lv_at hl 3 rfl) ?_
    refine pu_calli (runV (As := [.int w]) (rest := [.long 1000, .int r_39, .ref q_34]) ⟨hx, hb, hml, hown, hts⟩ (t_X10_backOf l D cy base τ G_1 a h_a w ⟨by omega, by omega⟩) sV_X10_360 hK (t_recv cf_11 hK hT h_a) ⟨Nat.le_trans hZ hS.1, hT⟩ ⟨Nat.le_of_ble_eq_true rfl, Nat.le_of_ble_eq_true rfl⟩ rfl hl.1 rfl (Nat.le_of_ble_eq_true rfl) dX10_comes_29 ⟨Nat.le_of_ble_eq_true rfl, Nat.le_of_ble_eq_true rfl⟩) (fun r_40 hr_40 => ?_)
    refine lv_i2l hx hb dX10_comes_32 rfl ?_
    refine lv_topl (fun z_41 ez_41 => ?_)
    have tz_41 : z_41.toInt = r_40.toInt := by rw [ez_41]; exact wide_t r_40
    have az_41 := min_t r_40
    have bz_41 := max_t r_40
    refine lv_lmul hx hb dX10_comes_33 ?_
    refine lv_topl (fun z_42 ez_42 => ?_)
    have tz_42 : z_42.toInt = 1000 * z_41.toInt := mul_t64 ez_42 (show -9223372036854775808 ≤ 1000 * z_41.toInt by omega) (show 1000 * z_41.toInt < 9223372036854775808 by omega)
    refine lv_iload_n hx hb dX10_comes_34 rfl (lv_at hl 0 rfl) ?_
    refine lv_i2l hx hb dX10_comes_35 rfl ?_
    refine lv_topl (fun z_43 ez_43 => ?_)
    have tz_43 : z_43.toInt = x1_3.toInt := by rw [ez_43]; exact wide_t x1_3
    refine lv_lmul hx hb dX10_comes_36 ?_
    refine lv_topl (fun z_44 ez_44 => ?_)
    refine t_last (n := 75000) (i := r_39) (x := z_44) rfl (by decide) hx hb hK hT hS hq_34 (hT.len hq_34 (by decide)) ⟨by omega, by omega⟩ dX10_comes_37 (fun H locs G_45 eG_45 hT hS => ?_)
    have hF := hF.wL eG_45 hq_34 rfl
    refine lv_aload_n hx hb dX10_comes_38 rfl (lv_at hl 1 rfl) ?_
    refine t_getr cf_11 hx hb hts hown hK hT h_a (k := 38) (P := fun q => τ q = 88) rfl (fun _ h9 => h9) fl_X10_99 (fun _ h9 => h9) dX10_comes_39 (fun q_46 eq_46 hq_46 => ?_)
    have w_47 : q_34 = q_46 := Option.some.inj (eq_34.symm.trans ((hF.r h_a (by decide) rfl _).symm.trans eq_46))
    subst w_47
    refine lv_aload_n hx hb dX10_comes_42 rfl (lv_at hl 1 rfl) ?_
    refine pu_calli (runV (As := []) (rest := [.ref q_34]) ⟨hx, hb, hml, hown, hts⟩ (t_X10_lastDay l D cy base τ G_45 a h_a q_35 hq_35 ((hF.r h_a (by decide) rfl _).trans eq_35) z_36 (ez_36.trans (hF.i hq_35 (by decide) rfl _).symm) ⟨by omega, by omega⟩) sV_X10_278 hK (t_recv cf_11 hK hT h_a) ⟨Nat.le_trans hZ hS.1, hT⟩ ⟨Nat.le_of_ble_eq_true rfl, Nat.le_of_ble_eq_true rfl⟩ rfl hl.1 rfl (Nat.le_of_ble_eq_true rfl) dX10_comes_43 ⟨Nat.le_of_ble_eq_true rfl, Nat.le_of_ble_eq_true rfl⟩) (fun r_48 hr_48 => ?_)
    have er_48 := hr_48
    have er_48 := er_48.symm
    subst er_48
    refine W.eq (g2 := F0 m 46 ls [.int z_36, .ref q_34]) rfl ?_
    refine lv_iconst (v := 1) hx hb dX10_comes_46 (by decide) ?_
    refine lv_iadd hx hb dX10_comes_47 ?_
    refine lv_topi (fun z_49 ez_49 => ?_)
    have w_50 : z_38 = z_49 := ez_38.trans ez_49.symm
    subst w_50
    refine lv_iconst (v := 1) hx hb dX10_comes_48 (by decide) ?_
    refine lv_iload_n hx hb dX10_comes_49 rfl (lv_at hl 0 rfl) ?_
    refine pu_calli (runS (As := [.int z_38, .int 1, .int x1_3]) (rest := [.ref q_34]) ⟨hx, hb, hml, hown, hts⟩ (t_X10_at3 l D cy base τ G_45 z_38 ⟨by omega, by omega⟩ 1 (by decide) x1_3 ⟨by omega, by omega⟩) sS_X10_392 hK ⟨Nat.le_trans hZ hS.1, hT⟩ ⟨Nat.le_of_ble_eq_true rfl, Nat.le_of_ble_eq_true rfl⟩ rfl hl.1 rfl (Nat.le_of_ble_eq_true rfl) dX10_comes_50 ⟨Nat.le_of_ble_eq_true rfl, Nat.le_of_ble_eq_true rfl⟩) (fun r_51 hr_51 => ?_)
    obtain ⟨hr_51_lo, hr_51_hi⟩ := hr_51
    have hr_51_lo : 0 ≤ r_51.toInt := hr_51_lo
    have hr_51_hi : r_51.toInt ≤ 74523 := hr_51_hi
    refine lv_ldc2 (v := 1000) hx hb hown (hts _ kl_X10_343) dX10_comes_53 ?_
    refine lv_aload_n hx hb dX10_comes_56 rfl (lv_at hl 1 rfl) ?_
    refine lv_iload_n hx hb dX10_comes_57 rfl (lv_at hl 3 rfl) ?_
    refine pu_calli (runV (As := [.int w]) (rest := [.long 1000, .int r_51, .ref q_34]) ⟨hx, hb, hml, hown, hts⟩ (t_X10_backOf l D cy base τ G_45 a h_a w ⟨by omega, by omega⟩) sV_X10_360 hK (t_recv cf_11 hK hT h_a) ⟨Nat.le_trans hZ hS.1, hT⟩ ⟨Nat.le_of_ble_eq_true rfl, Nat.le_of_ble_eq_true rfl⟩ rfl hl.1 rfl (Nat.le_of_ble_eq_true rfl) dX10_comes_58 ⟨Nat.le_of_ble_eq_true rfl, Nat.le_of_ble_eq_true rfl⟩) (fun r_52 hr_52 => ?_)
    refine lv_i2l hx hb dX10_comes_61 rfl ?_
    refine lv_topl (fun z_53 ez_53 => ?_)
    have tz_53 : z_53.toInt = r_52.toInt := by rw [ez_53]; exact wide_t r_52
    have az_53 := min_t r_52
    have bz_53 := max_t r_52
    refine lv_lmul hx hb dX10_comes_62 ?_
    refine lv_topl (fun z_54 ez_54 => ?_)
    have tz_54 : z_54.toInt = 1000 * z_53.toInt := mul_t64 ez_54 (show -9223372036854775808 ≤ 1000 * z_53.toInt by omega) (show 1000 * z_53.toInt < 9223372036854775808 by omega)
    refine lv_iload_n hx hb dX10_comes_63 rfl (lv_at hl 0 rfl) ?_
    refine lv_i2l hx hb dX10_comes_64 rfl ?_
    refine lv_topl (fun z_55 ez_55 => ?_)
    have tz_55 : z_55.toInt = x1_3.toInt := by rw [ez_55]; exact wide_t x1_3
    refine lv_lmul hx hb dX10_comes_65 ?_
    refine lv_topl (fun z_56 ez_56 => ?_)
    refine t_last (n := 75000) (i := r_51) (x := z_56) rfl (by decide) hx hb hK hT hS hq_34 (hT.len hq_34 (by decide)) ⟨by omega, by omega⟩ dX10_comes_66 (fun H locs G_57 eG_57 hT hS => ?_)
    have hF := hF.wL eG_57 hq_34 rfl
    obtain ⟨z_58, ez_58⟩ : ∃ y : Int32, y = x1_3 + 1 := ⟨_, rfl⟩
    have tz_58 : z_58.toInt = x1_3.toInt + 1 := add_t ez_58 (show -2147483648 ≤ x1_3.toInt + 1 by omega) (show x1_3.toInt + 1 < 2147483648 by omega)
    refine lv_iinc (v := z_58) (lv' := [(3, .int z_58), (0, .ref a), (1, .int v), (2, .int w)]) hx hb dX10_comes_67 hl (k := 0) rfl (by rw [ez_58]; rfl) (by decide) rfl (fun ls hl => ?_)
    refine lv_goto (tgt := 2) hx hb dX10_comes_70 (by decide) ?_
    exact ih1 (z_58, G_57) _ _ _ (by show (601 - z_58.toInt).toNat < (601 - x1_3.toInt).toNat; omega) ⟨(by show 0 ≤ z_58.toInt; omega), (by show z_58.toInt ≤ 601; omega), hF, hT, hS, lv_sub hl [0, 1, 2, 3] rfl⟩
set_option maxHeartbeats 4000000 in
set_option maxRecDepth 100000 in
theorem t_X10_lateOf (l : Launch) (D : va_G) (cy : Nat → ClassId) (base : Nat) (τ : Nat → Nat) (G : Gh) (a : Nat) (h_a : τ a = 11) (v : Int32) (r_v : 0 ≤ v.toInt ∧ v.toInt ≤ 5) (w : Int32) (r_w : 0 ≤ w.toInt ∧ w.toInt ≤ 2) : MM l yX10_lateOf cX10_lateOf 3 (some .long) 5 0 0 D cy [.ref a, .int v, .int w] (PT D cy base τ G) (QT D cy base τ G [88] (fun v g => ∃ r : Int64, v = some (.long r) ∧ (True))) (RA base) := by
  refine MM.of (by decide) (Nat.le_of_ble_eq_true rfl) ?_
  intro p e s m below meth c C hPT ls hl
  obtain ⟨hx, hb, hr, hml, hown, hts, hlocks, hK, hnm⟩ := C
  obtain ⟨hZ, hT⟩ := hPT
  have hS : va_S (RA base) s.heap s.heap [] := va_S.rf
  have hF : Fr τ [88] G G := Fr.rf
  have hl : lv_has ls 3 [(0, .ref a), (1, .int v), (2, .int w)] := hl
  refine lv_aload_n hx hb dX10_lateOf_0 rfl (lv_at hl 0 rfl) ?_
  refine lv_iload_n hx hb dX10_lateOf_1 rfl (lv_at hl 1 rfl) ?_
  refine lv_iload_n hx hb dX10_lateOf_2 rfl (lv_at hl 2 rfl) ?_
  refine t_callv (runV (As := [.int v, .int w]) (rest := []) ⟨hx, hb, hml, hown, hts⟩ (t_X10_comes l D cy base τ G a h_a v ⟨by omega, by omega⟩ w ⟨by omega, by omega⟩) sV_X10_407 hK (t_recv cf_11 hK hT h_a) ⟨Nat.le_trans hZ hS.1, hT⟩ ⟨Nat.le_of_ble_eq_true rfl, Nat.le_of_ble_eq_true rfl⟩ rfl hl.1 rfl (Nat.le_of_ble_eq_true rfl) dX10_lateOf_3 ⟨Nat.le_of_ble_eq_true rfl, Nat.le_of_ble_eq_true rfl⟩) hS (fun G_1 H locs hF_1 hr_1 hT hS => ?_)
  have hF := hF.tr hF_1 rfl
  refine lv_aload_n hx hb dX10_lateOf_6 rfl (lv_at hl 0 rfl) ?_
  refine t_getr cf_11 hx hb hts hown hK hT h_a (k := 38) (P := fun q => τ q = 88) rfl (fun _ h9 => h9) fl_X10_99 (fun _ h9 => h9) dX10_lateOf_7 (fun q_2 eq_2 hq_2 => ?_)
  have eq_2 := (hF.r h_a (by decide) rfl _).symm.trans eq_2
  refine lv_iconst (v := 1) hx hb dX10_lateOf_10 (by decide) ?_
  refine lv_iconst (v := 0) hx hb dX10_lateOf_11 (by decide) ?_
  refine lv_iconst (v := 0) hx hb dX10_lateOf_12 (by decide) ?_
  refine pu_calli (runS (As := [.int 1, .int 0, .int 0]) (rest := [.ref q_2]) ⟨hx, hb, hml, hown, hts⟩ (t_X10_at3 l D cy base τ G_1 1 (by decide) 0 (by decide) 0 (by decide)) sS_X10_392 hK ⟨Nat.le_trans hZ hS.1, hT⟩ ⟨Nat.le_of_ble_eq_true rfl, Nat.le_of_ble_eq_true rfl⟩ rfl hl.1 rfl (Nat.le_of_ble_eq_true rfl) dX10_lateOf_13 ⟨Nat.le_of_ble_eq_true rfl, Nat.le_of_ble_eq_true rfl⟩) (fun r_3 hr_3 => ?_)
  obtain ⟨hr_3_lo, hr_3_hi⟩ := hr_3
  have hr_3_lo : 0 ≤ r_3.toInt := hr_3_lo
  have hr_3_hi : r_3.toInt ≤ 74523 := hr_3_hi
  refine t_lald (n := 75000) (i := r_3) rfl (by decide) hx hb hK hT hq_2 (hT.len hq_2 (by decide)) ⟨by omega, by omega⟩ dX10_lateOf_16 (fun z_4 ez_4 => ?_)
  exact ret_l hx hb hr hlocks ⟨⟨hS.1, hS.2.1⟩, G_1, hF, ⟨_, rfl, trivial⟩, hT⟩ hS.2.2 (Nat.le_of_ble_eq_true rfl) (Nat.le_of_ble_eq_true rfl) dX10_lateOf_17
set_option maxHeartbeats 4000000 in
set_option maxRecDepth 100000 in
theorem t_X10_late (l : Launch) (D : va_G) (cy : Nat → ClassId) (base : Nat) (τ : Nat → Nat) (G : Gh) (a : Nat) (h_a : τ a = 11) (v0 : Int32) (v1 : Int32) : MM l yX10_late cX10_late 3 (some .long) 6 0 0 D cy [.ref a, .int v0, .int v1] (PT D cy base τ G) (QT D cy base τ G [11, 88] (fun v g => ∃ r : Int64, v = some (.long r) ∧ (True))) (RA base) := by
  refine MM.of (by decide) (Nat.le_of_ble_eq_true rfl) ?_
  intro p e s m below meth c C hPT ls hl
  obtain ⟨hx, hb, hr, hml, hown, hts, hlocks, hK, hnm⟩ := C
  obtain ⟨hZ, hT⟩ := hPT
  have hS : va_S (RA base) s.heap s.heap [] := va_S.rf
  have hF : Fr τ [11, 88] G G := Fr.rf
  have hl : lv_has ls 3 [(0, .ref a), (1, .int v0), (2, .int v1)] := hl
  refine lv_aload_n hx hb dX10_late_0 rfl (lv_at hl 0 rfl) ?_
  refine lv_iconst (v := 0) hx hb dX10_late_1 (by decide) ?_
  refine t_puti (x := 0) cf_11 hx hb hts hown hK hT hS h_a (k := 0) rfl trivial fl_X10_111 (fun _ h9 => h9) rfl rfl rfl dX10_late_2 (fun H locs G_1 eG_1 hT hS => ?_)
  have hF := hF.wI eG_1 h_a rfl
  refine lv_aload_n hx hb dX10_late_5 rfl (lv_at hl 0 rfl) ?_
  refine lv_iload_n hx hb dX10_late_6 rfl (lv_at hl 1 rfl) ?_
  refine lv_iload_n hx hb dX10_late_7 rfl (lv_at hl 2 rfl) ?_
  refine lv_iconst (v := 0) hx hb dX10_late_8 (by decide) ?_
  refine pu_calli (runV (As := [.int v0, .int v1, .int 0]) (rest := []) ⟨hx, hb, hml, hown, hts⟩ (t_X10_isStore l D cy base τ G_1 a h_a v0 v1 0) sV_X10_375 hK (t_recv cf_11 hK hT h_a) ⟨Nat.le_trans hZ hS.1, hT⟩ ⟨Nat.le_of_ble_eq_true rfl, Nat.le_of_ble_eq_true rfl⟩ rfl hl.1 rfl (Nat.le_of_ble_eq_true rfl) dX10_late_9 ⟨Nat.le_of_ble_eq_true rfl, Nat.le_of_ble_eq_true rfl⟩) (fun r_2 hr_2 => ?_)
  have hr_2_c := hr_2
  rcases hr_2_c with hr_2_0 | hr_2_1
  · skip
    obtain ⟨er_2, hr_2_0_f0, hr_2_0_f1, hr_2_0_f2, hr_2_0_f3, hr_2_0_f4, hr_2_0_f5⟩ := hr_2_0
    have hr_2_0_f0 : 0 ≤ v0.toInt := hr_2_0_f0
    have hr_2_0_f1 : v0.toInt ≤ 5 := hr_2_0_f1
    have hr_2_0_f2 : 0 ≤ v1.toInt := hr_2_0_f2
    have hr_2_0_f3 : v1.toInt ≤ 2 := hr_2_0_f3
    subst er_2
    refine W.eq (g2 := F0 m 12 ls [.int 1]) rfl ?_
    refine lv_if_eq (tgt := 24) hx hb dX10_late_12 (by decide) (fun c_3 => absurd c_3 (by decide)) (fun _ => ?_)
    refine lv_aload_n hx hb dX10_late_15 rfl (lv_at hl 0 rfl) ?_
    refine lv_iload_n hx hb dX10_late_16 rfl (lv_at hl 1 rfl) ?_
    refine lv_iload_n hx hb dX10_late_17 rfl (lv_at hl 2 rfl) ?_
    refine t_calll (runV (As := [.int v0, .int v1]) (rest := []) ⟨hx, hb, hml, hown, hts⟩ (t_X10_lateOf l D cy base τ G_1 a h_a v0 ⟨by omega, by omega⟩ v1 ⟨by omega, by omega⟩) sV_X10_410 hK (t_recv cf_11 hK hT h_a) ⟨Nat.le_trans hZ hS.1, hT⟩ ⟨Nat.le_of_ble_eq_true rfl, Nat.le_of_ble_eq_true rfl⟩ rfl hl.1 rfl (Nat.le_of_ble_eq_true rfl) dX10_late_18 ⟨Nat.le_of_ble_eq_true rfl, Nat.le_of_ble_eq_true rfl⟩) hS (fun r_4 G_4 H locs hF_4 hr_4 hT hS => ?_)
    have hF := hF.tr hF_4 rfl
    refine lv_goto (tgt := 27) hx hb dX10_late_21 (by decide) ?_
    exact ret_l hx hb hr hlocks ⟨⟨hS.1, hS.2.1⟩, G_4, hF, ⟨_, rfl, trivial⟩, hT⟩ hS.2.2 (Nat.le_of_ble_eq_true rfl) (Nat.le_of_ble_eq_true rfl) dX10_late_27
  · skip
    have er_2 := hr_2_1
    subst er_2
    refine W.eq (g2 := F0 m 12 ls [.int 0]) rfl ?_
    refine lv_if_eq (tgt := 24) hx hb dX10_late_12 (by decide) (fun _ => ?_) (fun c_5 => absurd (by decide) c_5)
    refine lv_ldc2 (v := (-2)) hx hb hown (hts _ kl_X10_300) dX10_late_24 ?_
    exact ret_l hx hb hr hlocks ⟨⟨hS.1, hS.2.1⟩, G_1, hF, ⟨_, rfl, trivial⟩, hT⟩ hS.2.2 (Nat.le_of_ble_eq_true rfl) (Nat.le_of_ble_eq_true rfl) dX10_late_27
set_option maxHeartbeats 4000000 in
set_option maxRecDepth 100000 in
theorem t_X10_today (l : Launch) (D : va_G) (cy : Nat → ClassId) (base : Nat) (τ : Nat → Nat) (G : Gh) (a : Nat) (h_a : τ a = 11) (v0 : Int32) (v1 : Int32) (v2 : Int32) (v3 : Int32) (v4 : Int32) : MM l yX10_today cX10_today 6 (some .int) 5 0 0 D cy [.ref a, .int v0, .int v1, .int v2, .int v3, .int v4] (PT D cy base τ G) (QT D cy base τ G [11, 88] (fun v g => ∃ r : Int32, v = some (.int r) ∧ (True))) (RA base) := by
  refine MM.of (by decide) (Nat.le_of_ble_eq_true rfl) ?_
  intro p e s m below meth c C hPT ls hl
  obtain ⟨hx, hb, hr, hml, hown, hts, hlocks, hK, hnm⟩ := C
  obtain ⟨hZ, hT⟩ := hPT
  have hS : va_S (RA base) s.heap s.heap [] := va_S.rf
  have hF : Fr τ [11, 88] G G := Fr.rf
  have hl : lv_has ls 6 [(0, .ref a), (1, .int v0), (2, .int v1), (3, .int v2), (4, .int v3), (5, .int v4)] := hl
  refine lv_aload_n hx hb dX10_today_0 rfl (lv_at hl 0 rfl) ?_
  refine lv_iconst (v := 0) hx hb dX10_today_1 (by decide) ?_
  refine t_puti (x := 0) cf_11 hx hb hts hown hK hT hS h_a (k := 0) rfl trivial fl_X10_111 (fun _ h9 => h9) rfl rfl rfl dX10_today_2 (fun H locs G_1 eG_1 hT hS => ?_)
  have hF := hF.wI eG_1 h_a rfl
  refine lv_aload_n hx hb dX10_today_5 rfl (lv_at hl 0 rfl) ?_
  refine lv_iload_n hx hb dX10_today_6 rfl (lv_at hl 1 rfl) ?_
  refine lv_iload_n hx hb dX10_today_7 rfl (lv_at hl 2 rfl) ?_
  refine lv_iconst (v := 0) hx hb dX10_today_8 (by decide) ?_
  refine pu_calli (runV (As := [.int v0, .int v1, .int 0]) (rest := []) ⟨hx, hb, hml, hown, hts⟩ (t_X10_isStore l D cy base τ G_1 a h_a v0 v1 0) sV_X10_375 hK (t_recv cf_11 hK hT h_a) ⟨Nat.le_trans hZ hS.1, hT⟩ ⟨Nat.le_of_ble_eq_true rfl, Nat.le_of_ble_eq_true rfl⟩ rfl hl.1 rfl (Nat.le_of_ble_eq_true rfl) dX10_today_9 ⟨Nat.le_of_ble_eq_true rfl, Nat.le_of_ble_eq_true rfl⟩) (fun r_2 hr_2 => ?_)
  have hr_2_c := hr_2
  rcases hr_2_c with hr_2_0 | hr_2_1
  · skip
    obtain ⟨er_2, hr_2_0_f0, hr_2_0_f1, hr_2_0_f2, hr_2_0_f3, hr_2_0_f4, hr_2_0_f5⟩ := hr_2_0
    have hr_2_0_f0 : 0 ≤ v0.toInt := hr_2_0_f0
    have hr_2_0_f1 : v0.toInt ≤ 5 := hr_2_0_f1
    have hr_2_0_f2 : 0 ≤ v1.toInt := hr_2_0_f2
    have hr_2_0_f3 : v1.toInt ≤ 2 := hr_2_0_f3
    subst er_2
    refine W.eq (g2 := F0 m 12 ls [.int 1]) rfl ?_
    refine lv_if_eq (tgt := 36) hx hb dX10_today_12 (by decide) (fun c_3 => absurd c_3 (by decide)) (fun _ => ?_)
    refine lv_aload_n hx hb dX10_today_15 rfl (lv_at hl 0 rfl) ?_
    refine lv_iload_n hx hb dX10_today_16 rfl (lv_at hl 3 rfl) ?_
    refine pu_calli (runV (As := [.int v2]) (rest := []) ⟨hx, hb, hml, hown, hts⟩ (t_X10_isDay l D cy base τ G_1 a h_a v2) sV_X10_305 hK (t_recv cf_11 hK hT h_a) ⟨Nat.le_trans hZ hS.1, hT⟩ ⟨Nat.le_of_ble_eq_true rfl, Nat.le_of_ble_eq_true rfl⟩ rfl hl.1 rfl (Nat.le_of_ble_eq_true rfl) dX10_today_17 ⟨Nat.le_of_ble_eq_true rfl, Nat.le_of_ble_eq_true rfl⟩) (fun r_4 hr_4 => ?_)
    have hr_4_c := hr_4
    rcases hr_4_c with hr_4_0 | hr_4_1
    · skip
      obtain ⟨er_4, hr_4_0_f0, hr_4_0_f1⟩ := hr_4_0
      have hr_4_0_f0 : 1 ≤ v2.toInt := hr_4_0_f0
      have hr_4_0_f1 : v2.toInt ≤ 60 := hr_4_0_f1
      subst er_4
      refine W.eq (g2 := F0 m 20 ls [.int 1]) rfl ?_
      refine lv_if_eq (tgt := 36) hx hb dX10_today_20 (by decide) (fun c_5 => absurd c_5 (by decide)) (fun _ => ?_)
      refine lv_iload hx hb dX10_today_23 (lv_at hl 5 rfl) ?_
      refine lv_i2l hx hb dX10_today_25 rfl ?_
      refine lv_topl (fun z_6 ez_6 => ?_)
      have tz_6 : z_6.toInt = v4.toInt := by rw [ez_6]; exact wide_t v4
      have az_6 := min_t v4
      have bz_6 := max_t v4
      refine lv_lconst (v := 0) hx hb dX10_today_26 (by decide) ?_
      refine lv_ldc2 (v := 600) hx hb hown (hts _ kl_X10_413) dX10_today_27 ?_
      refine pu_calli (runS (As := [.long z_6, .long 0, .long 600]) (rest := []) ⟨hx, hb, hml, hown, hts⟩ (t_X10_in l D cy base τ G_1 z_6 0 600) sS_X10_116 hK ⟨Nat.le_trans hZ hS.1, hT⟩ ⟨Nat.le_of_ble_eq_true rfl, Nat.le_of_ble_eq_true rfl⟩ rfl hl.1 rfl (Nat.le_of_ble_eq_true rfl) dX10_today_30 ⟨Nat.le_of_ble_eq_true rfl, Nat.le_of_ble_eq_true rfl⟩) (fun r_7 hr_7 => ?_)
      have hr_7_c := hr_7
      rcases hr_7_c with hr_7_0 | hr_7_1
      · skip
        obtain ⟨er_7, hr_7_0_f0, hr_7_0_f1⟩ := hr_7_0
        have hr_7_0_f0 : 0 ≤ z_6.toInt := hr_7_0_f0
        have hr_7_0_f1 : z_6.toInt ≤ 600 := hr_7_0_f1
        subst er_7
        refine W.eq (g2 := F0 m 33 ls [.int 1]) rfl ?_
        refine lv_if_ne (tgt := 39) hx hb dX10_today_33 (by decide) (fun _ => ?_) (fun c_8 => absurd c_8 (by decide))
        refine lv_aload_n hx hb dX10_today_39 rfl (lv_at hl 0 rfl) ?_
        refine lv_iload_n hx hb dX10_today_40 rfl (lv_at hl 1 rfl) ?_
        refine lv_iload_n hx hb dX10_today_41 rfl (lv_at hl 2 rfl) ?_
        refine t_callv (runV (As := [.int v0, .int v1]) (rest := []) ⟨hx, hb, hml, hown, hts⟩ (t_X10_comes l D cy base τ G_1 a h_a v0 ⟨by omega, by omega⟩ v1 ⟨by omega, by omega⟩) sV_X10_407 hK (t_recv cf_11 hK hT h_a) ⟨Nat.le_trans hZ hS.1, hT⟩ ⟨Nat.le_of_ble_eq_true rfl, Nat.le_of_ble_eq_true rfl⟩ rfl hl.1 rfl (Nat.le_of_ble_eq_true rfl) dX10_today_42 ⟨Nat.le_of_ble_eq_true rfl, Nat.le_of_ble_eq_true rfl⟩) hS (fun G_9 H locs hF_9 hr_9 hT hS => ?_)
        have hF := hF.tr hF_9 rfl
        refine lv_aload_n hx hb dX10_today_45 rfl (lv_at hl 0 rfl) ?_
        refine lv_iload_n hx hb dX10_today_46 rfl (lv_at hl 1 rfl) ?_
        refine lv_iload_n hx hb dX10_today_47 rfl (lv_at hl 2 rfl) ?_
        refine lv_iload_n hx hb dX10_today_48 rfl (lv_at hl 3 rfl) ?_
        refine lv_iload hx hb dX10_today_49 (lv_at hl 4 rfl) ?_
        refine lv_iload hx hb dX10_today_51 (lv_at hl 5 rfl) ?_
        obtain ⟨q_10, eq_10, hq_10⟩ := (show ∃ q, G_9.2.2.1 a 24 = some q ∧ τ q = 74 from hT.rgr h_a (by decide) 24)
        have eq_10 := (hF.r h_a (by decide) rfl _).symm.trans eq_10
        obtain ⟨z_11, ez_11⟩ : ∃ y : Int32, y = G_9.1 q_10 1 := ⟨_, rfl⟩
        have qz_11 : (1 % 6 = 0 → 0 ≤ z_11.toInt ∧ z_11.toInt ≤ 9) ∧ (1 % 6 = 1 → 0 ≤ z_11.toInt ∧ z_11.toInt ≤ 50) ∧ (1 % 6 = 3 → 0 ≤ z_11.toInt ∧ z_11.toInt ≤ 50) := by rw [ez_11]; exact hT.rgi hq_10 (by decide) 1
        have rz_11 : 0 ≤ z_11.toInt ∧ z_11.toInt ≤ 50 := by omega
        have ez_11 : z_11 = G.1 q_10 1 := ez_11.trans (hF.i hq_10 (by decide) rfl _)
        refine pu_calli (runV (As := [.int v0, .int v1, .int v2, .int v3, .int v4]) (rest := []) ⟨hx, hb, hml, hown, hts⟩ (t_X10_fewest l D cy base τ G_9 a h_a v0 ⟨by omega, by omega⟩ v1 ⟨by omega, by omega⟩ v2 ⟨by omega, by omega⟩ v3 v4 ⟨by omega, by omega⟩ q_10 hq_10 ((hF.r h_a (by decide) rfl _).trans eq_10) z_11 (ez_11.trans (hF.i hq_10 (by decide) rfl _).symm) ⟨by omega, by omega⟩) sV_X10_403 hK (t_recv cf_11 hK hT h_a) ⟨Nat.le_trans hZ hS.1, hT⟩ ⟨Nat.le_of_ble_eq_true rfl, Nat.le_of_ble_eq_true rfl⟩ rfl hl.1 rfl (Nat.le_of_ble_eq_true rfl) dX10_today_53 ⟨Nat.le_of_ble_eq_true rfl, Nat.le_of_ble_eq_true rfl⟩) (fun r_12 hr_12 => ?_)
        obtain ⟨hr_12_lo, hr_12_hi, hr_12_p0, hr_12_p1⟩ := hr_12
        have hr_12_lo : 0 ≤ r_12.toInt := hr_12_lo
        have hr_12_hi : r_12.toInt ≤ 9 := hr_12_hi
        have hr_12_p0 : 0 ≤ r_12.toInt * z_11.toInt := hr_12_p0
        have hr_12_p1 : v4.toInt + r_12.toInt * z_11.toInt ≤ 600 := hr_12_p1
        exact ret_i hx hb hr hlocks ⟨⟨hS.1, hS.2.1⟩, G_9, hF, ⟨_, rfl, trivial⟩, hT⟩ hS.2.2 (Nat.le_of_ble_eq_true rfl) (Nat.le_of_ble_eq_true rfl) dX10_today_56
      · skip
        have er_7 := hr_7_1
        subst er_7
        refine W.eq (g2 := F0 m 33 ls [.int 0]) rfl ?_
        refine lv_if_ne (tgt := 39) hx hb dX10_today_33 (by decide) (fun c_13 => absurd rfl c_13) (fun _ => ?_)
        refine lv_bipush (v := (-2)) hx hb dX10_today_36 (by decide) ?_
        exact ret_i hx hb hr hlocks ⟨⟨hS.1, hS.2.1⟩, G_1, hF, ⟨_, rfl, trivial⟩, hT⟩ hS.2.2 (Nat.le_of_ble_eq_true rfl) (Nat.le_of_ble_eq_true rfl) dX10_today_38
    · skip
      have er_4 := hr_4_1
      subst er_4
      refine W.eq (g2 := F0 m 20 ls [.int 0]) rfl ?_
      refine lv_if_eq (tgt := 36) hx hb dX10_today_20 (by decide) (fun _ => ?_) (fun c_14 => absurd (by decide) c_14)
      refine lv_bipush (v := (-2)) hx hb dX10_today_36 (by decide) ?_
      exact ret_i hx hb hr hlocks ⟨⟨hS.1, hS.2.1⟩, G_1, hF, ⟨_, rfl, trivial⟩, hT⟩ hS.2.2 (Nat.le_of_ble_eq_true rfl) (Nat.le_of_ble_eq_true rfl) dX10_today_38
  · skip
    have er_2 := hr_2_1
    subst er_2
    refine W.eq (g2 := F0 m 12 ls [.int 0]) rfl ?_
    refine lv_if_eq (tgt := 36) hx hb dX10_today_12 (by decide) (fun _ => ?_) (fun c_15 => absurd (by decide) c_15)
    refine lv_bipush (v := (-2)) hx hb dX10_today_36 (by decide) ?_
    exact ret_i hx hb hr hlocks ⟨⟨hS.1, hS.2.1⟩, G_1, hF, ⟨_, rfl, trivial⟩, hT⟩ hS.2.2 (Nat.le_of_ble_eq_true rfl) (Nat.le_of_ble_eq_true rfl) dX10_today_38
set_option maxHeartbeats 4000000 in
set_option maxRecDepth 100000 in
theorem t_X10_last (l : Launch) (D : va_G) (cy : Nat → ClassId) (base : Nat) (τ : Nat → Nat) (G : Gh) (a : Nat) (h_a : τ a = 11) (v0 : Int32) (v1 : Int32) : MM l yX10_last cX10_last 7 (some .int) 5 0 0 D cy [.ref a, .int v0, .int v1] (PT D cy base τ G) (QT D cy base τ G [11, 88] (fun v g => ∃ r : Int32, v = some (.int r) ∧ (True))) (RA base) := by
  refine MM.of (by decide) (Nat.le_of_ble_eq_true rfl) ?_
  intro p e s m below meth c C hPT ls hl
  obtain ⟨hx, hb, hr, hml, hown, hts, hlocks, hK, hnm⟩ := C
  obtain ⟨hZ, hT⟩ := hPT
  have hS : va_S (RA base) s.heap s.heap [] := va_S.rf
  have hF : Fr τ [11, 88] G G := Fr.rf
  have hl : lv_has ls 7 [(0, .ref a), (1, .int v0), (2, .int v1)] := hl
  refine lv_aload_n hx hb dX10_last_0 rfl (lv_at hl 0 rfl) ?_
  refine lv_iconst (v := 0) hx hb dX10_last_1 (by decide) ?_
  refine t_puti (x := 0) cf_11 hx hb hts hown hK hT hS h_a (k := 0) rfl trivial fl_X10_111 (fun _ h9 => h9) rfl rfl rfl dX10_last_2 (fun H locs G_1 eG_1 hT hS => ?_)
  have hF := hF.wI eG_1 h_a rfl
  refine lv_aload_n hx hb dX10_last_5 rfl (lv_at hl 0 rfl) ?_
  refine lv_iload_n hx hb dX10_last_6 rfl (lv_at hl 1 rfl) ?_
  refine lv_iload_n hx hb dX10_last_7 rfl (lv_at hl 2 rfl) ?_
  refine lv_iconst (v := 0) hx hb dX10_last_8 (by decide) ?_
  refine pu_calli (runV (As := [.int v0, .int v1, .int 0]) (rest := []) ⟨hx, hb, hml, hown, hts⟩ (t_X10_isStore l D cy base τ G_1 a h_a v0 v1 0) sV_X10_375 hK (t_recv cf_11 hK hT h_a) ⟨Nat.le_trans hZ hS.1, hT⟩ ⟨Nat.le_of_ble_eq_true rfl, Nat.le_of_ble_eq_true rfl⟩ rfl hl.1 rfl (Nat.le_of_ble_eq_true rfl) dX10_last_9 ⟨Nat.le_of_ble_eq_true rfl, Nat.le_of_ble_eq_true rfl⟩) (fun r_2 hr_2 => ?_)
  have hr_2_c := hr_2
  rcases hr_2_c with hr_2_0 | hr_2_1
  · skip
    obtain ⟨er_2, hr_2_0_f0, hr_2_0_f1, hr_2_0_f2, hr_2_0_f3, hr_2_0_f4, hr_2_0_f5⟩ := hr_2_0
    have hr_2_0_f0 : 0 ≤ v0.toInt := hr_2_0_f0
    have hr_2_0_f1 : v0.toInt ≤ 5 := hr_2_0_f1
    have hr_2_0_f2 : 0 ≤ v1.toInt := hr_2_0_f2
    have hr_2_0_f3 : v1.toInt ≤ 2 := hr_2_0_f3
    subst er_2
    refine W.eq (g2 := F0 m 12 ls [.int 1]) rfl ?_
    refine lv_if_ne (tgt := 18) hx hb dX10_last_12 (by decide) (fun _ => ?_) (fun c_3 => absurd c_3 (by decide))
    refine lv_aload_n hx hb dX10_last_18 rfl (lv_at hl 0 rfl) ?_
    refine lv_iload_n hx hb dX10_last_19 rfl (lv_at hl 1 rfl) ?_
    refine lv_iload_n hx hb dX10_last_20 rfl (lv_at hl 2 rfl) ?_
    refine t_callv (runV (As := [.int v0, .int v1]) (rest := []) ⟨hx, hb, hml, hown, hts⟩ (t_X10_comes l D cy base τ G_1 a h_a v0 ⟨by omega, by omega⟩ v1 ⟨by omega, by omega⟩) sV_X10_407 hK (t_recv cf_11 hK hT h_a) ⟨Nat.le_trans hZ hS.1, hT⟩ ⟨Nat.le_of_ble_eq_true rfl, Nat.le_of_ble_eq_true rfl⟩ rfl hl.1 rfl (Nat.le_of_ble_eq_true rfl) dX10_last_21 ⟨Nat.le_of_ble_eq_true rfl, Nat.le_of_ble_eq_true rfl⟩) hS (fun G_4 H locs hF_4 hr_4 hT hS => ?_)
    have hF := hF.tr hF_4 rfl
    refine lv_iconst (v := (-1)) hx hb dX10_last_24 (by decide) ?_
    refine lv_istore_n (lv' := [(3, .int (-1)), (0, .ref a), (1, .int v0), (2, .int v1)]) hx hb dX10_last_25 rfl hl (by decide) rfl (fun ls hl => ?_)
    refine lv_iconst (v := 0) hx hb dX10_last_26 (by decide) ?_
    refine lv_istore (lv' := [(4, .int 0), (3, .int (-1)), (0, .ref a), (1, .int v0), (2, .int v1)]) hx hb dX10_last_27 hl (by decide) rfl (fun ls hl => ?_)
    refine lv_iconst (v := 1) hx hb dX10_last_29 (by decide) ?_
    refine lv_istore (lv' := [(5, .int 1), (4, .int 0), (3, .int (-1)), (0, .ref a), (1, .int v0), (2, .int v1)]) hx hb dX10_last_30 hl (by decide) rfl (fun ls hl => ?_)
    refine W.loop (σ := Int32 × Int32 × Int32 × Gh) (fun w5 H locs ls => 0 ≤ w5.2.1.toInt ∧ w5.2.1.toInt ≤ 600 ∧ 1 ≤ w5.2.2.1.toInt ∧ w5.2.2.1.toInt ≤ 61 ∧ Fr τ [11, 88] G w5.2.2.2 ∧ TY D cy base τ w5.2.2.2 H ∧ va_S (RA base) s.heap H locs ∧ lv_has ls 7 [(3, .int w5.1), (4, .int w5.2.1), (5, .int w5.2.2.1), (0, .ref a), (1, .int v0), (2, .int v1)]) (fun w5 => (61 - w5.2.2.1.toInt).toNat) ?_ (((-1) : Int32), (0 : Int32), (1 : Int32), G_4) _ _ _ ⟨(by show 0 ≤ (0 : Int32).toInt; decide), (by show (0 : Int32).toInt ≤ 600; decide), (by show 1 ≤ (1 : Int32).toInt; decide), (by show (1 : Int32).toInt ≤ 61; decide), hF, hT, hS, lv_sub hl [2, 1, 0, 3, 4, 5] rfl⟩
    intro w5 H locs ls hI ih5
    obtain ⟨x5_3, x5_4, x5_5, G_5⟩ := w5
    obtain ⟨i5_0, i5_1, i5_2, i5_3, hF, hT, hS, hl⟩ := hI
    have i5_0 : 0 ≤ x5_4.toInt := i5_0
    have i5_1 : x5_4.toInt ≤ 600 := i5_1
    have i5_2 : 1 ≤ x5_5.toInt := i5_2
    have i5_3 : x5_5.toInt ≤ 61 := i5_3
    have hF : Fr τ [11, 88] G G_5 := hF
    have hT : TY D cy base τ G_5 H := hT
    have hS : va_S (RA base) s.heap H locs := hS
    have hl : lv_has ls 7 [(3, .int x5_3), (4, .int x5_4), (5, .int x5_5), (0, .ref a), (1, .int v0), (2, .int v1)] := hl
    refine lv_iload hx hb dX10_last_32 (lv_at hl 2 rfl) ?_
    refine lv_aload_n hx hb dX10_last_34 rfl (lv_at hl 3 rfl) ?_
    obtain ⟨q_6, eq_6, hq_6⟩ := (show ∃ q, G_5.2.2.1 a 17 = some q ∧ τ q = 67 from hT.rgr h_a (by decide) 17)
    have eq_6 := (hF.r h_a (by decide) rfl _).symm.trans eq_6
    obtain ⟨z_7, ez_7⟩ : ∃ y : Int32, y = G_5.1 q_6 0 := ⟨_, rfl⟩
    have qz_7 : (0 % 4 = 0 → 0 ≤ z_7.toInt ∧ z_7.toInt ≤ 60) := by rw [ez_7]; exact hT.rgi hq_6 (by decide) 0
    have rz_7 : 0 ≤ z_7.toInt ∧ z_7.toInt ≤ 60 := by omega
    have ez_7 : z_7 = G.1 q_6 0 := ez_7.trans (hF.i hq_6 (by decide) rfl _)
    refine pu_calli (runV (As := []) (rest := [.int x5_5]) ⟨hx, hb, hml, hown, hts⟩ (t_X10_lastDay l D cy base τ G_5 a h_a q_6 hq_6 ((hF.r h_a (by decide) rfl _).trans eq_6) z_7 (ez_7.trans (hF.i hq_6 (by decide) rfl _).symm) ⟨by omega, by omega⟩) sV_X10_278 hK (t_recv cf_11 hK hT h_a) ⟨Nat.le_trans hZ hS.1, hT⟩ ⟨Nat.le_of_ble_eq_true rfl, Nat.le_of_ble_eq_true rfl⟩ rfl hl.1 rfl (Nat.le_of_ble_eq_true rfl) dX10_last_35 ⟨Nat.le_of_ble_eq_true rfl, Nat.le_of_ble_eq_true rfl⟩) (fun r_8 hr_8 => ?_)
    have er_8 := hr_8
    have er_8 := er_8.symm
    subst er_8
    refine W.eq (g2 := F0 m 38 ls [.int z_7, .int x5_5]) rfl ?_
    refine lv_icmp_gt (tgt := 86) hx hb dX10_last_38 (by decide) (fun c_9 => ?_) (fun c_9 => ?_)
    · skip
      have tc_9 : z_7.toInt < x5_5.toInt := (fa_lt _ _).mp c_9
      refine lv_iload_n hx hb dX10_last_86 rfl (lv_at hl 0 rfl) ?_
      exact ret_i hx hb hr hlocks ⟨⟨hS.1, hS.2.1⟩, G_5, hF, ⟨_, rfl, trivial⟩, hT⟩ hS.2.2 (Nat.le_of_ble_eq_true rfl) (Nat.le_of_ble_eq_true rfl) dX10_last_87
    · skip
      have tc_9 : ¬ z_7.toInt < x5_5.toInt := fun h => c_9 ((fa_lt _ _).mpr h)
      refine lv_aload_n hx hb dX10_last_41 rfl (lv_at hl 3 rfl) ?_
      refine lv_iload_n hx hb dX10_last_42 rfl (lv_at hl 4 rfl) ?_
      refine lv_iload_n hx hb dX10_last_43 rfl (lv_at hl 5 rfl) ?_
      refine lv_iload hx hb dX10_last_44 (lv_at hl 2 rfl) ?_
      refine lv_iconst (v := 0) hx hb dX10_last_46 (by decide) ?_
      refine lv_iload hx hb dX10_last_47 (lv_at hl 1 rfl) ?_
      obtain ⟨q_10, eq_10, hq_10⟩ := (show ∃ q, G_5.2.2.1 a 24 = some q ∧ τ q = 74 from hT.rgr h_a (by decide) 24)
      have eq_10 := (hF.r h_a (by decide) rfl _).symm.trans eq_10
      obtain ⟨z_11, ez_11⟩ : ∃ y : Int32, y = G_5.1 q_10 1 := ⟨_, rfl⟩
      have qz_11 : (1 % 6 = 0 → 0 ≤ z_11.toInt ∧ z_11.toInt ≤ 9) ∧ (1 % 6 = 1 → 0 ≤ z_11.toInt ∧ z_11.toInt ≤ 50) ∧ (1 % 6 = 3 → 0 ≤ z_11.toInt ∧ z_11.toInt ≤ 50) := by rw [ez_11]; exact hT.rgi hq_10 (by decide) 1
      have rz_11 : 0 ≤ z_11.toInt ∧ z_11.toInt ≤ 50 := by omega
      have ez_11 : z_11 = G.1 q_10 1 := ez_11.trans (hF.i hq_10 (by decide) rfl _)
      refine pu_calli (runV (As := [.int v0, .int v1, .int x5_5, .int 0, .int x5_4]) (rest := []) ⟨hx, hb, hml, hown, hts⟩ (t_X10_fewest l D cy base τ G_5 a h_a v0 ⟨by omega, by omega⟩ v1 ⟨by omega, by omega⟩ x5_5 ⟨by omega, by omega⟩ 0 x5_4 ⟨by omega, by omega⟩ q_10 hq_10 ((hF.r h_a (by decide) rfl _).trans eq_10) z_11 (ez_11.trans (hF.i hq_10 (by decide) rfl _).symm) ⟨by omega, by omega⟩) sV_X10_403 hK (t_recv cf_11 hK hT h_a) ⟨Nat.le_trans hZ hS.1, hT⟩ ⟨Nat.le_of_ble_eq_true rfl, Nat.le_of_ble_eq_true rfl⟩ rfl hl.1 rfl (Nat.le_of_ble_eq_true rfl) dX10_last_49 ⟨Nat.le_of_ble_eq_true rfl, Nat.le_of_ble_eq_true rfl⟩) (fun r_12 hr_12 => ?_)
      obtain ⟨hr_12_lo, hr_12_hi, hr_12_p0, hr_12_p1⟩ := hr_12
      have hr_12_lo : 0 ≤ r_12.toInt := hr_12_lo
      have hr_12_hi : r_12.toInt ≤ 9 := hr_12_hi
      have hr_12_p0 : 0 ≤ r_12.toInt * z_11.toInt := hr_12_p0
      have hr_12_p1 : x5_4.toInt + r_12.toInt * z_11.toInt ≤ 600 := hr_12_p1
      refine lv_istore (lv' := [(6, .int r_12), (3, .int x5_3), (4, .int x5_4), (5, .int x5_5), (0, .ref a), (1, .int v0), (2, .int v1)]) hx hb dX10_last_52 hl (by decide) rfl (fun ls hl => ?_)
      refine lv_iload hx hb dX10_last_54 (lv_at hl 2 rfl) ?_
      refine lv_iload hx hb dX10_last_56 (lv_at hl 0 rfl) ?_
      refine lv_aload_n hx hb dX10_last_58 rfl (lv_at hl 4 rfl) ?_
      refine t_getr cf_11 hx hb hts hown hK hT h_a (k := 24) (P := fun q => τ q = 74) rfl (fun _ h9 => h9) fl_X10_55 (fun _ h9 => h9) dX10_last_59 (fun q_13 eq_13 hq_13 => ?_)
      have w_14 : q_10 = q_13 := Option.some.inj (eq_10.symm.trans ((hF.r h_a (by decide) rfl _).symm.trans eq_13))
      subst w_14
      refine lv_iconst (v := 1) hx hb dX10_last_62 (by decide) ?_
      refine t_iald (n := 30) (i := 1) rfl (by decide) hx hb hK hT hq_10 (hT.len hq_10 (by decide)) ⟨by decide, by decide⟩ dX10_last_63 (fun z_15 ez_15 rz_15 => ?_)
      have w_16 : z_11 = z_15 := ez_11.trans (ez_15.trans (hF.i hq_10 (by decide) rfl _)).symm
      subst w_16
      refine lv_imul hx hb dX10_last_64 ?_
      refine lv_topi (fun z_17 ez_17 => ?_)
      have tz_17 : 0 ≤ z_17.toInt ∧ z_17.toInt ≤ 450 ∧ z_17.toInt = r_12.toInt * z_11.toInt := mulb_t (a := 9) (b := 50) ez_17 (by omega) (by omega) (by omega) (by omega) (by decide)
      refine lv_iadd hx hb dX10_last_65 ?_
      refine lv_topi (fun z_18 ez_18 => ?_)
      have tz_18 : z_18.toInt = x5_4.toInt + z_17.toInt := add_t ez_18 (show -2147483648 ≤ x5_4.toInt + z_17.toInt by omega) (show x5_4.toInt + z_17.toInt < 2147483648 by omega)
      refine lv_istore (lv' := [(4, .int z_18), (6, .int r_12), (3, .int x5_3), (5, .int x5_5), (0, .ref a), (1, .int v0), (2, .int v1)]) hx hb dX10_last_66 hl (by decide) rfl (fun ls hl => ?_)
      refine lv_iload hx hb dX10_last_68 (lv_at hl 1 rfl) ?_
      refine lv_if_le (tgt := 78) hx hb dX10_last_70 (by decide) (fun c_19 => ?_) (fun c_19 => ?_)
      · skip
        have tc_19 : r_12.toInt ≤ 0 := (fa_le _ _).mp c_19
        refine lv_iload_n hx hb dX10_last_78 rfl (lv_at hl 2 rfl) ?_
        refine lv_istore_n (lv' := [(3, .int x5_3), (4, .int z_18), (6, .int r_12), (5, .int x5_5), (0, .ref a), (1, .int v0), (2, .int v1)]) hx hb dX10_last_79 rfl hl (by decide) rfl (fun ls hl => ?_)
        obtain ⟨z_20, ez_20⟩ : ∃ y : Int32, y = x5_5 + 1 := ⟨_, rfl⟩
        have tz_20 : z_20.toInt = x5_5.toInt + 1 := add_t ez_20 (show -2147483648 ≤ x5_5.toInt + 1 by omega) (show x5_5.toInt + 1 < 2147483648 by omega)
        refine lv_iinc (v := z_20) (lv' := [(5, .int z_20), (3, .int x5_3), (4, .int z_18), (6, .int r_12), (0, .ref a), (1, .int v0), (2, .int v1)]) hx hb dX10_last_80 hl (k := 3) rfl (by rw [ez_20]; rfl) (by decide) rfl (fun ls hl => ?_)
        refine lv_goto (tgt := 32) hx hb dX10_last_83 (by decide) ?_
        exact ih5 (x5_3, z_18, z_20, G_5) _ _ _ (by show (61 - z_20.toInt).toNat < (61 - x5_5.toInt).toNat; omega) ⟨(by show 0 ≤ z_18.toInt; omega), (by show z_18.toInt ≤ 600; omega), (by show 1 ≤ z_20.toInt; omega), (by show z_20.toInt ≤ 61; omega), hF, hT, hS, lv_sub hl [1, 2, 0, 4, 5, 6] rfl⟩
      · skip
        have tc_19 : ¬ r_12.toInt ≤ 0 := fun h => c_19 ((fa_le _ _).mpr h)
        refine lv_iload hx hb dX10_last_73 (lv_at hl 3 rfl) ?_
        refine lv_goto (tgt := 79) hx hb dX10_last_75 (by decide) ?_
        refine lv_istore_n (lv' := [(3, .int x5_5), (4, .int z_18), (6, .int r_12), (5, .int x5_5), (0, .ref a), (1, .int v0), (2, .int v1)]) hx hb dX10_last_79 rfl hl (by decide) rfl (fun ls hl => ?_)
        obtain ⟨z_21, ez_21⟩ : ∃ y : Int32, y = x5_5 + 1 := ⟨_, rfl⟩
        have tz_21 : z_21.toInt = x5_5.toInt + 1 := add_t ez_21 (show -2147483648 ≤ x5_5.toInt + 1 by omega) (show x5_5.toInt + 1 < 2147483648 by omega)
        refine lv_iinc (v := z_21) (lv' := [(5, .int z_21), (3, .int x5_5), (4, .int z_18), (6, .int r_12), (0, .ref a), (1, .int v0), (2, .int v1)]) hx hb dX10_last_80 hl (k := 3) rfl (by rw [ez_21]; rfl) (by decide) rfl (fun ls hl => ?_)
        refine lv_goto (tgt := 32) hx hb dX10_last_83 (by decide) ?_
        exact ih5 (x5_5, z_18, z_21, G_5) _ _ _ (by show (61 - z_21.toInt).toNat < (61 - x5_5.toInt).toNat; omega) ⟨(by show 0 ≤ z_18.toInt; omega), (by show z_18.toInt ≤ 600; omega), (by show 1 ≤ z_21.toInt; omega), (by show z_21.toInt ≤ 61; omega), hF, hT, hS, lv_sub hl [1, 2, 0, 4, 5, 6] rfl⟩
  · skip
    have er_2 := hr_2_1
    subst er_2
    refine W.eq (g2 := F0 m 12 ls [.int 0]) rfl ?_
    refine lv_if_ne (tgt := 18) hx hb dX10_last_12 (by decide) (fun c_22 => absurd rfl c_22) (fun _ => ?_)
    refine lv_bipush (v := (-2)) hx hb dX10_last_15 (by decide) ?_
    exact ret_i hx hb hr hlocks ⟨⟨hS.1, hS.2.1⟩, G_1, hF, ⟨_, rfl, trivial⟩, hT⟩ hS.2.2 (Nat.le_of_ble_eq_true rfl) (Nat.le_of_ble_eq_true rfl) dX10_last_17
set_option maxHeartbeats 4000000 in
set_option maxRecDepth 100000 in
theorem t_X10_forks (l : Launch) (D : va_G) (cy : Nat → ClassId) (base : Nat) (τ : Nat → Nat) (G : Gh) (a : Nat) (h_a : τ a = 11) (v : Int32) (r_v : 0 ≤ v.toInt ∧ v.toInt ≤ 5) (y : Int32) (r_y : 0 ≤ y.toInt ∧ y.toInt ≤ 5) (w : Int32) (r_w : 0 ≤ w.toInt ∧ w.toInt ≤ 2) : MM l yX10_forks cX10_forks 6 none 4 0 0 D cy [.ref a, .int v, .int y, .int w] (PT D cy base τ G) (QT D cy base τ G [80, 81, 82, 89] (fun v g => v = none ∧ (True))) (RA base) := by
  refine MM.of (by decide) (Nat.le_of_ble_eq_true rfl) ?_
  intro p e s m below meth c C hPT ls hl
  obtain ⟨hx, hb, hr, hml, hown, hts, hlocks, hK, hnm⟩ := C
  obtain ⟨hZ, hT⟩ := hPT
  have hS : va_S (RA base) s.heap s.heap [] := va_S.rf
  have hF : Fr τ [80, 81, 82, 89] G G := Fr.rf
  have hl : lv_has ls 6 [(0, .ref a), (1, .int v), (2, .int y), (3, .int w)] := hl
  refine lv_iconst (v := 0) hx hb dX10_forks_0 (by decide) ?_
  refine lv_istore (lv' := [(4, .int 0), (0, .ref a), (1, .int v), (2, .int y), (3, .int w)]) hx hb dX10_forks_1 hl (by decide) rfl (fun ls hl => ?_)
  refine W.loop (σ := Int32 × Gh) (fun w1 H locs ls => 0 ≤ w1.1.toInt ∧ w1.1.toInt ≤ 1100 ∧ Fr τ [80, 81, 82, 89] G w1.2 ∧ TY D cy base τ w1.2 H ∧ va_S (RA base) s.heap H locs ∧ lv_has ls 6 [(4, .int w1.1), (0, .ref a), (1, .int v), (2, .int y), (3, .int w)]) (fun w1 => (1100 - w1.1.toInt).toNat) ?_ ((0 : Int32), G) _ _ _ ⟨(by show 0 ≤ (0 : Int32).toInt; decide), (by show (0 : Int32).toInt ≤ 1100; decide), hF, hT, hS, lv_sub hl [0, 1, 2, 3, 4] rfl⟩
  intro w1 H locs ls hI ih1
  obtain ⟨x1_4, G_1⟩ := w1
  obtain ⟨i1_0, i1_1, hF, hT, hS, hl⟩ := hI
  have i1_0 : 0 ≤ x1_4.toInt := i1_0
  have i1_1 : x1_4.toInt ≤ 1100 := i1_1
  have hF : Fr τ [80, 81, 82, 89] G G_1 := hF
  have hT : TY D cy base τ G_1 H := hT
  have hS : va_S (RA base) s.heap H locs := hS
  have hl : lv_has ls 6 [(4, .int x1_4), (0, .ref a), (1, .int v), (2, .int y), (3, .int w)] := hl
  refine lv_iload hx hb dX10_forks_3 (lv_at hl 0 rfl) ?_
  refine lv_aload_n hx hb dX10_forks_5 rfl (lv_at hl 1 rfl) ?_
  refine t_getr cf_11 hx hb hts hown hK hT h_a (k := 39) (P := fun q => τ q = 89) rfl (fun _ h9 => h9) fl_X10_102 (fun _ h9 => h9) dX10_forks_6 (fun q_2 eq_2 hq_2 => ?_)
  have eq_2 := (hF.r h_a (by decide) rfl _).symm.trans eq_2
  refine t_alen (v := 1100) rfl (by decide) hx hb hK hT hq_2 rfl (by rw [show _ = 1100 from (hT.len hq_2 (by decide))]; rfl) dX10_forks_9 ?_
  refine lv_icmp_ge (tgt := 27) hx hb dX10_forks_10 (by decide) (fun c_3 => ?_) (fun c_3 => ?_)
  · skip
    have tc_3 : 1100 ≤ x1_4.toInt := (fa_le _ _).mp c_3
    refine lv_aload_n hx hb dX10_forks_27 rfl (lv_at hl 1 rfl) ?_
    refine lv_iload_n hx hb dX10_forks_28 rfl (lv_at hl 2 rfl) ?_
    refine lv_iload_n hx hb dX10_forks_29 rfl (lv_at hl 3 rfl) ?_
    refine t_callv (runV (As := [.int v, .int y]) (rest := []) ⟨hx, hb, hml, hown, hts⟩ (t_X10_splitsTwo l D cy base τ G_1 a h_a v ⟨by omega, by omega⟩ y ⟨by omega, by omega⟩) sV_X10_327 hK (t_recv cf_11 hK hT h_a) ⟨Nat.le_trans hZ hS.1, hT⟩ ⟨Nat.le_of_ble_eq_true rfl, Nat.le_of_ble_eq_true rfl⟩ rfl hl.1 rfl (Nat.le_of_ble_eq_true rfl) dX10_forks_30 ⟨Nat.le_of_ble_eq_true rfl, Nat.le_of_ble_eq_true rfl⟩) hS (fun G_4 H locs hF_4 hr_4 hT hS => ?_)
    have hF := hF.tr hF_4 rfl
    refine lv_iconst (v := 0) hx hb dX10_forks_33 (by decide) ?_
    refine lv_istore (lv' := [(4, .int 0), (0, .ref a), (1, .int v), (2, .int y), (3, .int w)]) hx hb dX10_forks_34 hl (by decide) rfl (fun ls hl => ?_)
    refine W.loop (σ := Int32 × Gh) (fun w5 H locs ls => 0 ≤ w5.1.toInt ∧ w5.1.toInt ≤ 61 ∧ Fr τ [80, 81, 82, 89] G w5.2 ∧ TY D cy base τ w5.2 H ∧ va_S (RA base) s.heap H locs ∧ lv_has ls 6 [(4, .int w5.1), (0, .ref a), (1, .int v), (2, .int y), (3, .int w)]) (fun w5 => (61 - w5.1.toInt).toNat) ?_ ((0 : Int32), G_4) _ _ _ ⟨(by show 0 ≤ (0 : Int32).toInt; decide), (by show (0 : Int32).toInt ≤ 61; decide), hF, hT, hS, lv_sub hl [0, 1, 2, 3, 4] rfl⟩
    intro w5 H locs ls hI ih5
    obtain ⟨x5_4, G_5⟩ := w5
    obtain ⟨i5_0, i5_1, hF, hT, hS, hl⟩ := hI
    have i5_0 : 0 ≤ x5_4.toInt := i5_0
    have i5_1 : x5_4.toInt ≤ 61 := i5_1
    have hF : Fr τ [80, 81, 82, 89] G G_5 := hF
    have hT : TY D cy base τ G_5 H := hT
    have hS : va_S (RA base) s.heap H locs := hS
    have hl : lv_has ls 6 [(4, .int x5_4), (0, .ref a), (1, .int v), (2, .int y), (3, .int w)] := hl
    refine lv_iload hx hb dX10_forks_36 (lv_at hl 0 rfl) ?_
    refine lv_aload_n hx hb dX10_forks_38 rfl (lv_at hl 1 rfl) ?_
    obtain ⟨q_6, eq_6, hq_6⟩ := (show ∃ q, G_5.2.2.1 a 17 = some q ∧ τ q = 67 from hT.rgr h_a (by decide) 17)
    have eq_6 := (hF.r h_a (by decide) rfl _).symm.trans eq_6
    obtain ⟨z_7, ez_7⟩ : ∃ y : Int32, y = G_5.1 q_6 0 := ⟨_, rfl⟩
    have qz_7 : (0 % 4 = 0 → 0 ≤ z_7.toInt ∧ z_7.toInt ≤ 60) := by rw [ez_7]; exact hT.rgi hq_6 (by decide) 0
    have rz_7 : 0 ≤ z_7.toInt ∧ z_7.toInt ≤ 60 := by omega
    have ez_7 : z_7 = G.1 q_6 0 := ez_7.trans (hF.i hq_6 (by decide) rfl _)
    refine pu_calli (runV (As := []) (rest := [.int x5_4]) ⟨hx, hb, hml, hown, hts⟩ (t_X10_lastDay l D cy base τ G_5 a h_a q_6 hq_6 ((hF.r h_a (by decide) rfl _).trans eq_6) z_7 (ez_7.trans (hF.i hq_6 (by decide) rfl _).symm) ⟨by omega, by omega⟩) sV_X10_278 hK (t_recv cf_11 hK hT h_a) ⟨Nat.le_trans hZ hS.1, hT⟩ ⟨Nat.le_of_ble_eq_true rfl, Nat.le_of_ble_eq_true rfl⟩ rfl hl.1 rfl (Nat.le_of_ble_eq_true rfl) dX10_forks_39 ⟨Nat.le_of_ble_eq_true rfl, Nat.le_of_ble_eq_true rfl⟩) (fun r_8 hr_8 => ?_)
    have er_8 := hr_8
    have er_8 := er_8.symm
    subst er_8
    refine W.eq (g2 := F0 m 42 ls [.int z_7, .int x5_4]) rfl ?_
    refine lv_icmp_gt (tgt := 102) hx hb dX10_forks_42 (by decide) (fun c_9 => ?_) (fun c_9 => ?_)
    · skip
      have tc_9 : z_7.toInt < x5_4.toInt := (fa_lt _ _).mp c_9
      exact ret_v hx hb hr hlocks ⟨⟨hS.1, hS.2.1⟩, G_5, hF, ⟨rfl, trivial⟩, hT⟩ hS.2.2 (Nat.le_of_ble_eq_true rfl) (Nat.le_of_ble_eq_true rfl) dX10_forks_102
    · skip
      have tc_9 : ¬ z_7.toInt < x5_4.toInt := fun h => c_9 ((fa_lt _ _).mpr h)
      refine lv_iconst (v := 0) hx hb dX10_forks_45 (by decide) ?_
      refine lv_istore (lv' := [(5, .int 0), (4, .int x5_4), (0, .ref a), (1, .int v), (2, .int y), (3, .int w)]) hx hb dX10_forks_46 hl (by decide) rfl (fun ls hl => ?_)
      refine W.loop (σ := Int32 × Gh) (fun w10 H locs ls => 0 ≤ w10.1.toInt ∧ w10.1.toInt ≤ 61 ∧ Fr τ [80, 81, 82, 89] G w10.2 ∧ TY D cy base τ w10.2 H ∧ va_S (RA base) s.heap H locs ∧ lv_has ls 6 [(5, .int w10.1), (4, .int x5_4), (0, .ref a), (1, .int v), (2, .int y), (3, .int w)]) (fun w10 => (61 - w10.1.toInt).toNat) ?_ ((0 : Int32), G_5) _ _ _ ⟨(by show 0 ≤ (0 : Int32).toInt; decide), (by show (0 : Int32).toInt ≤ 61; decide), hF, hT, hS, lv_sub hl [0, 1, 2, 3, 4, 5] rfl⟩
      intro w10 H locs ls hI ih10
      obtain ⟨x10_5, G_10⟩ := w10
      obtain ⟨i10_0, i10_1, hF, hT, hS, hl⟩ := hI
      have i10_0 : 0 ≤ x10_5.toInt := i10_0
      have i10_1 : x10_5.toInt ≤ 61 := i10_1
      have hF : Fr τ [80, 81, 82, 89] G G_10 := hF
      have hT : TY D cy base τ G_10 H := hT
      have hS : va_S (RA base) s.heap H locs := hS
      have hl : lv_has ls 6 [(5, .int x10_5), (4, .int x5_4), (0, .ref a), (1, .int v), (2, .int y), (3, .int w)] := hl
      refine lv_iload hx hb dX10_forks_48 (lv_at hl 0 rfl) ?_
      refine lv_aload_n hx hb dX10_forks_50 rfl (lv_at hl 2 rfl) ?_
      refine pu_calli (runV (As := []) (rest := [.int x10_5]) ⟨hx, hb, hml, hown, hts⟩ (t_X10_lastDay l D cy base τ G_10 a h_a q_6 hq_6 ((hF.r h_a (by decide) rfl _).trans eq_6) z_7 (ez_7.trans (hF.i hq_6 (by decide) rfl _).symm) ⟨by omega, by omega⟩) sV_X10_278 hK (t_recv cf_11 hK hT h_a) ⟨Nat.le_trans hZ hS.1, hT⟩ ⟨Nat.le_of_ble_eq_true rfl, Nat.le_of_ble_eq_true rfl⟩ rfl hl.1 rfl (Nat.le_of_ble_eq_true rfl) dX10_forks_51 ⟨Nat.le_of_ble_eq_true rfl, Nat.le_of_ble_eq_true rfl⟩) (fun r_11 hr_11 => ?_)
      have er_11 := hr_11
      have er_11 := er_11.symm
      subst er_11
      refine W.eq (g2 := F0 m 54 ls [.int z_7, .int x10_5]) rfl ?_
      refine lv_icmp_gt (tgt := 96) hx hb dX10_forks_54 (by decide) (fun c_12 => ?_) (fun c_12 => ?_)
      · skip
        have tc_12 : z_7.toInt < x10_5.toInt := (fa_lt _ _).mp c_12
        obtain ⟨z_13, ez_13⟩ : ∃ y : Int32, y = x5_4 + 1 := ⟨_, rfl⟩
        have tz_13 : z_13.toInt = x5_4.toInt + 1 := add_t ez_13 (show -2147483648 ≤ x5_4.toInt + 1 by omega) (show x5_4.toInt + 1 < 2147483648 by omega)
        refine lv_iinc (v := z_13) (lv' := [(4, .int z_13), (5, .int x10_5), (0, .ref a), (1, .int v), (2, .int y), (3, .int w)]) hx hb dX10_forks_96 hl (k := 1) rfl (by rw [ez_13]; rfl) (by decide) rfl (fun ls hl => ?_)
        refine lv_goto (tgt := 36) hx hb dX10_forks_99 (by decide) ?_
        exact ih5 (z_13, G_10) _ _ _ (by show (61 - z_13.toInt).toNat < (61 - x5_4.toInt).toNat; omega) ⟨(by show 0 ≤ z_13.toInt; omega), (by show z_13.toInt ≤ 61; omega), hF, hT, hS, lv_sub hl [0, 2, 3, 4, 5] rfl⟩
      · skip
        have tc_12 : ¬ z_7.toInt < x10_5.toInt := fun h => c_12 ((fa_lt _ _).mpr h)
        refine lv_aload_n hx hb dX10_forks_57 rfl (lv_at hl 2 rfl) ?_
        refine t_getr cf_11 hx hb hts hown hK hT h_a (k := 39) (P := fun q => τ q = 89) rfl (fun _ h9 => h9) fl_X10_102 (fun _ h9 => h9) dX10_forks_58 (fun q_14 eq_14 hq_14 => ?_)
        have w_15 : q_2 = q_14 := Option.some.inj (eq_2.symm.trans ((hF.r h_a (by decide) rfl _).symm.trans eq_14))
        subst w_15
        refine lv_aload_n hx hb dX10_forks_61 rfl (lv_at hl 2 rfl) ?_
        refine lv_iload_n hx hb dX10_forks_62 rfl (lv_at hl 3 rfl) ?_
        refine lv_iload_n hx hb dX10_forks_63 rfl (lv_at hl 5 rfl) ?_
        refine lv_iload hx hb dX10_forks_64 (lv_at hl 1 rfl) ?_
        refine pu_calli (runV (As := [.int v, .int w, .int x5_4]) (rest := [.ref q_2]) ⟨hx, hb, hml, hown, hts⟩ (t_X10_wantsOf2 l D cy base τ G_10 a h_a v ⟨by omega, by omega⟩ w ⟨by omega, by omega⟩ x5_4 ⟨by omega, by omega⟩ q_6 hq_6 ((hF.r h_a (by decide) rfl _).trans eq_6) z_7 (ez_7.trans (hF.i hq_6 (by decide) rfl _).symm) ⟨by omega, by omega⟩ (by show x5_4.toInt ≤ z_7.toInt; first | assumption | omega | decide)) sV_X10_353 hK (t_recv cf_11 hK hT h_a) ⟨Nat.le_trans hZ hS.1, hT⟩ ⟨Nat.le_of_ble_eq_true rfl, Nat.le_of_ble_eq_true rfl⟩ rfl hl.1 rfl (Nat.le_of_ble_eq_true rfl) dX10_forks_66 ⟨Nat.le_of_ble_eq_true rfl, Nat.le_of_ble_eq_true rfl⟩) (fun r_16 hr_16 => ?_)
        obtain ⟨hr_16_lo, hr_16_hi⟩ := hr_16
        have hr_16_lo : 0 ≤ r_16.toInt := hr_16_lo
        have hr_16_hi : r_16.toInt ≤ 540 := hr_16_hi
        refine lv_aload_n hx hb dX10_forks_69 rfl (lv_at hl 2 rfl) ?_
        refine lv_iload_n hx hb dX10_forks_70 rfl (lv_at hl 4 rfl) ?_
        refine lv_iload_n hx hb dX10_forks_71 rfl (lv_at hl 5 rfl) ?_
        refine lv_iload hx hb dX10_forks_72 (lv_at hl 0 rfl) ?_
        refine pu_calli (runV (As := [.int y, .int w, .int x10_5]) (rest := [.int r_16, .ref q_2]) ⟨hx, hb, hml, hown, hts⟩ (t_X10_wantsOf2 l D cy base τ G_10 a h_a y ⟨by omega, by omega⟩ w ⟨by omega, by omega⟩ x10_5 ⟨by omega, by omega⟩ q_6 hq_6 ((hF.r h_a (by decide) rfl _).trans eq_6) z_7 (ez_7.trans (hF.i hq_6 (by decide) rfl _).symm) ⟨by omega, by omega⟩ (by show x10_5.toInt ≤ z_7.toInt; first | assumption | omega | decide)) sV_X10_353 hK (t_recv cf_11 hK hT h_a) ⟨Nat.le_trans hZ hS.1, hT⟩ ⟨Nat.le_of_ble_eq_true rfl, Nat.le_of_ble_eq_true rfl⟩ rfl hl.1 rfl (Nat.le_of_ble_eq_true rfl) dX10_forks_74 ⟨Nat.le_of_ble_eq_true rfl, Nat.le_of_ble_eq_true rfl⟩) (fun r_17 hr_17 => ?_)
        obtain ⟨hr_17_lo, hr_17_hi⟩ := hr_17
        have hr_17_lo : 0 ≤ r_17.toInt := hr_17_lo
        have hr_17_hi : r_17.toInt ≤ 540 := hr_17_hi
        refine lv_iadd hx hb dX10_forks_77 ?_
        refine lv_topi (fun z_18 ez_18 => ?_)
        have tz_18 : z_18.toInt = r_16.toInt + r_17.toInt := add_t ez_18 (show -2147483648 ≤ r_16.toInt + r_17.toInt by omega) (show r_16.toInt + r_17.toInt < 2147483648 by omega)
        refine lv_dup2_11 hx hb dX10_forks_78 rfl rfl ?_
        refine t_lald (n := 1100) (i := z_18) rfl (by decide) hx hb hK hT hq_2 (hT.len hq_2 (by decide)) ⟨by omega, by omega⟩ dX10_forks_79 (fun z_19 ez_19 => ?_)
        refine lv_aload_n hx hb dX10_forks_80 rfl (lv_at hl 2 rfl) ?_
        refine lv_iload hx hb dX10_forks_81 (lv_at hl 1 rfl) ?_
        refine lv_iload hx hb dX10_forks_83 (lv_at hl 0 rfl) ?_
        refine pu_calll (runV (As := [.int x5_4, .int x10_5]) (rest := [.long z_19, .int z_18, .ref q_2]) ⟨hx, hb, hml, hown, hts⟩ (t_X10_two l D cy base τ G_10 a h_a x5_4 ⟨by omega, by omega⟩ x10_5 ⟨by omega, by omega⟩) sV_X10_330 hK (t_recv cf_11 hK hT h_a) ⟨Nat.le_trans hZ hS.1, hT⟩ ⟨Nat.le_of_ble_eq_true rfl, Nat.le_of_ble_eq_true rfl⟩ rfl hl.1 rfl (Nat.le_of_ble_eq_true rfl) dX10_forks_85 ⟨Nat.le_of_ble_eq_true rfl, Nat.le_of_ble_eq_true rfl⟩) (fun r_20 hr_20 => ?_)
        refine lv_ladd hx hb dX10_forks_88 ?_
        refine lv_topl (fun z_21 ez_21 => ?_)
        refine t_last (n := 1100) (i := z_18) (x := z_21) rfl (by decide) hx hb hK hT hS hq_2 (hT.len hq_2 (by decide)) ⟨by omega, by omega⟩ dX10_forks_89 (fun H locs G_22 eG_22 hT hS => ?_)
        have hF := hF.wL eG_22 hq_2 rfl
        obtain ⟨z_23, ez_23⟩ : ∃ y : Int32, y = x10_5 + 1 := ⟨_, rfl⟩
        have tz_23 : z_23.toInt = x10_5.toInt + 1 := add_t ez_23 (show -2147483648 ≤ x10_5.toInt + 1 by omega) (show x10_5.toInt + 1 < 2147483648 by omega)
        refine lv_iinc (v := z_23) (lv' := [(5, .int z_23), (4, .int x5_4), (0, .ref a), (1, .int v), (2, .int y), (3, .int w)]) hx hb dX10_forks_90 hl (k := 0) rfl (by rw [ez_23]; rfl) (by decide) rfl (fun ls hl => ?_)
        refine lv_goto (tgt := 48) hx hb dX10_forks_93 (by decide) ?_
        exact ih10 (z_23, G_22) _ _ _ (by show (61 - z_23.toInt).toNat < (61 - x10_5.toInt).toNat; omega) ⟨(by show 0 ≤ z_23.toInt; omega), (by show z_23.toInt ≤ 61; omega), hF, hT, hS, lv_sub hl [0, 1, 2, 3, 4, 5] rfl⟩
  · skip
    have tc_3 : ¬ 1100 ≤ x1_4.toInt := fun h => c_3 ((fa_le _ _).mpr h)
    refine lv_aload_n hx hb dX10_forks_13 rfl (lv_at hl 1 rfl) ?_
    refine t_getr cf_11 hx hb hts hown hK hT h_a (k := 39) (P := fun q => τ q = 89) rfl (fun _ h9 => h9) fl_X10_102 (fun _ h9 => h9) dX10_forks_14 (fun q_24 eq_24 hq_24 => ?_)
    have w_25 : q_2 = q_24 := Option.some.inj (eq_2.symm.trans ((hF.r h_a (by decide) rfl _).symm.trans eq_24))
    subst w_25
    refine lv_iload hx hb dX10_forks_17 (lv_at hl 0 rfl) ?_
    refine lv_lconst (v := 0) hx hb dX10_forks_19 (by decide) ?_
    refine t_last (n := 1100) (i := x1_4) (x := 0) rfl (by decide) hx hb hK hT hS hq_2 (hT.len hq_2 (by decide)) ⟨by omega, by omega⟩ dX10_forks_20 (fun H locs G_26 eG_26 hT hS => ?_)
    have hF := hF.wL eG_26 hq_2 rfl
    obtain ⟨z_27, ez_27⟩ : ∃ y : Int32, y = x1_4 + 1 := ⟨_, rfl⟩
    have tz_27 : z_27.toInt = x1_4.toInt + 1 := add_t ez_27 (show -2147483648 ≤ x1_4.toInt + 1 by omega) (show x1_4.toInt + 1 < 2147483648 by omega)
    refine lv_iinc (v := z_27) (lv' := [(4, .int z_27), (0, .ref a), (1, .int v), (2, .int y), (3, .int w)]) hx hb dX10_forks_21 hl (k := 0) rfl (by rw [ez_27]; rfl) (by decide) rfl (fun ls hl => ?_)
    refine lv_goto (tgt := 3) hx hb dX10_forks_24 (by decide) ?_
    exact ih1 (z_27, G_26) _ _ _ (by show (1100 - z_27.toInt).toNat < (1100 - x1_4.toInt).toNat; omega) ⟨(by show 0 ≤ z_27.toInt; omega), (by show z_27.toInt ≤ 1100; omega), hF, hT, hS, lv_sub hl [0, 1, 2, 3, 4] rfl⟩
set_option maxHeartbeats 4000000 in
set_option maxRecDepth 100000 in
theorem t_X10_forkOf (l : Launch) (D : va_G) (cy : Nat → ClassId) (base : Nat) (τ : Nat → Nat) (G : Gh) (a : Nat) (h_a : τ a = 11) (w : Int32) (r_w : 0 ≤ w.toInt ∧ w.toInt ≤ 2) (z : Int32) : MM l yX10_forkOf cX10_forkOf 6 (some .long) 2 0 0 D cy [.ref a, .int w, .int z] (PT D cy base τ G) (PuL (fun r => True)) noF := by
  refine MM.of (by decide) (Nat.le_of_ble_eq_true rfl) ?_
  intro p e s m below meth c C hPT ls hl
  obtain ⟨hx, hb, hr, hml, hown, hts, hlocks, hK, hnm⟩ := C
  obtain ⟨hZ, hT⟩ := hPT
  have hS : va_S (RA base) s.heap s.heap [] := va_S.rf
  have hl : lv_has ls 6 [(0, .ref a), (1, .int w), (2, .int z)] := hl
  refine lv_ldc2 (v := 1000000000000) hx hb hown (hts _ kl_X10_284) dX10_forkOf_0 ?_
  refine lv_aload_n hx hb dX10_forkOf_3 rfl (lv_at hl 0 rfl) ?_
  refine lv_iload_n hx hb dX10_forkOf_4 rfl (lv_at hl 1 rfl) ?_
  refine pu_calli (runV (As := [.int w]) (rest := [.long 1000000000000]) ⟨hx, hb, hml, hown, hts⟩ (t_X10_priceOf l D cy base τ G a h_a w ⟨by omega, by omega⟩) sV_X10_363 hK (t_recv cf_11 hK hT h_a) ⟨Nat.le_trans hZ hS.1, hT⟩ ⟨Nat.le_of_ble_eq_true rfl, Nat.le_of_ble_eq_true rfl⟩ rfl hl.1 rfl (Nat.le_of_ble_eq_true rfl) dX10_forkOf_5 ⟨Nat.le_of_ble_eq_true rfl, Nat.le_of_ble_eq_true rfl⟩) (fun r_1 hr_1 => ?_)
  refine lv_i2l hx hb dX10_forkOf_8 rfl ?_
  refine lv_topl (fun z_2 ez_2 => ?_)
  have tz_2 : z_2.toInt = r_1.toInt := by rw [ez_2]; exact wide_t r_1
  have az_2 := min_t r_1
  have bz_2 := max_t r_1
  refine lv_lmul hx hb dX10_forkOf_9 ?_
  refine lv_topl (fun z_3 ez_3 => ?_)
  refine lv_iload_n hx hb dX10_forkOf_10 rfl (lv_at hl 2 rfl) ?_
  refine lv_i2l hx hb dX10_forkOf_11 rfl ?_
  refine lv_topl (fun z_4 ez_4 => ?_)
  have tz_4 : z_4.toInt = z.toInt := by rw [ez_4]; exact wide_t z
  have az_4 := min_t z
  have bz_4 := max_t z
  refine lv_lmul hx hb dX10_forkOf_12 ?_
  refine lv_topl (fun z_5 ez_5 => ?_)
  refine lv_lstore_n (lv' := [(3, .long z_5), (0, .ref a), (1, .int w), (2, .int z)]) hx hb dX10_forkOf_13 rfl hl (by decide) rfl (fun ls hl => ?_)
  refine lv_iconst (v := 0) hx hb dX10_forkOf_14 (by decide) ?_
  refine lv_istore (lv' := [(5, .int 0), (3, .long z_5), (0, .ref a), (1, .int w), (2, .int z)]) hx hb dX10_forkOf_15 hl (by decide) rfl (fun ls hl => ?_)
  refine W.loop (σ := Int64 × Int32) (fun w6 H locs ls => 0 ≤ w6.2.toInt ∧ w6.2.toInt ≤ 1100 ∧ H = s.heap ∧ locs = [] ∧ lv_has ls 6 [(3, .long w6.1), (5, .int w6.2), (0, .ref a), (1, .int w), (2, .int z)]) (fun w6 => (1100 - w6.2.toInt).toNat) ?_ (z_5, (0 : Int32)) _ _ _ ⟨(by show 0 ≤ (0 : Int32).toInt; decide), (by show (0 : Int32).toInt ≤ 1100; decide), rfl, rfl, lv_sub hl [1, 0, 2, 3, 4] rfl⟩
  intro w6 H locs ls hI ih6
  obtain ⟨x6_3, x6_5⟩ := w6
  obtain ⟨i6_0, i6_1, rfl, rfl, hl⟩ := hI
  have i6_0 : 0 ≤ x6_5.toInt := i6_0
  have i6_1 : x6_5.toInt ≤ 1100 := i6_1
  have hl : lv_has ls 6 [(3, .long x6_3), (5, .int x6_5), (0, .ref a), (1, .int w), (2, .int z)] := hl
  refine lv_iload hx hb dX10_forkOf_17 (lv_at hl 1 rfl) ?_
  refine lv_aload_n hx hb dX10_forkOf_19 rfl (lv_at hl 2 rfl) ?_
  refine t_getr cf_11 hx hb hts hown hK hT h_a (k := 39) (P := fun q => τ q = 89) rfl (fun _ h9 => h9) fl_X10_102 (fun _ h9 => h9) dX10_forkOf_20 (fun q_7 eq_7 hq_7 => ?_)
  refine t_alen (v := 1100) rfl (by decide) hx hb hK hT hq_7 rfl (by rw [show _ = 1100 from (hT.len hq_7 (by decide))]; rfl) dX10_forkOf_23 ?_
  refine lv_icmp_ge (tgt := 89) hx hb dX10_forkOf_24 (by decide) (fun c_8 => ?_) (fun c_8 => ?_)
  · skip
    have tc_8 : 1100 ≤ x6_5.toInt := (fa_le _ _).mp c_8
    refine lv_lload_n hx hb dX10_forkOf_89 rfl (lv_at hl 0 rfl) ?_
    exact ret_l hx hb hr hlocks ⟨rfl, _, rfl, trivial⟩ (fun _ h => absurd h List.not_mem_nil) (Nat.le_refl _) (Nat.le_refl _) dX10_forkOf_90
  · skip
    have tc_8 : ¬ 1100 ≤ x6_5.toInt := fun h => c_8 ((fa_le _ _).mpr h)
    refine lv_aload_n hx hb dX10_forkOf_27 rfl (lv_at hl 2 rfl) ?_
    refine t_getr cf_11 hx hb hts hown hK hT h_a (k := 39) (P := fun q => τ q = 89) rfl (fun _ h9 => h9) fl_X10_102 (fun _ h9 => h9) dX10_forkOf_28 (fun q_9 eq_9 hq_9 => ?_)
    have w_10 : q_7 = q_9 := Option.some.inj (eq_7.symm.trans eq_9)
    subst w_10
    refine lv_iload hx hb dX10_forkOf_31 (lv_at hl 1 rfl) ?_
    refine t_lald (n := 1100) (i := x6_5) rfl (by decide) hx hb hK hT hq_7 (hT.len hq_7 (by decide)) ⟨by omega, by omega⟩ dX10_forkOf_33 (fun z_11 ez_11 => ?_)
    refine lv_lconst (v := 0) hx hb dX10_forkOf_34 (by decide) ?_
    refine W.lcmp hx hb dX10_forkOf_35 ?_
    refine lv_topi (fun z_12 ez_12 => ?_)
    have tz_12 : (z_12.toInt < 0 ↔ z_11.toInt < 0) ∧ (0 < z_12.toInt ↔ 0 < z_11.toInt) ∧ -1 ≤ z_12.toInt ∧ z_12.toInt ≤ 1 := cmp_t ez_12
    refine lv_if_ne (tgt := 42) hx hb dX10_forkOf_36 (by decide) (fun c_13 => ?_) (fun c_13 => ?_)
    · skip
      have tc_13 : ¬ z_12.toInt = 0 := fun h => c_13 ((fa_eq _ _).mpr h)
      refine lv_lload_n hx hb dX10_forkOf_42 rfl (lv_at hl 0 rfl) ?_
      refine lv_aload_n hx hb dX10_forkOf_43 rfl (lv_at hl 2 rfl) ?_
      refine t_getr cf_11 hx hb hts hown hK hT h_a (k := 39) (P := fun q => τ q = 89) rfl (fun _ h9 => h9) fl_X10_102 (fun _ h9 => h9) dX10_forkOf_44 (fun q_14 eq_14 hq_14 => ?_)
      have w_15 : q_7 = q_14 := Option.some.inj (eq_7.symm.trans eq_14)
      subst w_15
      refine lv_iload hx hb dX10_forkOf_47 (lv_at hl 1 rfl) ?_
      refine t_lald (n := 1100) (i := x6_5) rfl (by decide) hx hb hK hT hq_7 (hT.len hq_7 (by decide)) ⟨by omega, by omega⟩ dX10_forkOf_49 (fun z_16 ez_16 => ?_)
      have w_17 : z_11 = z_16 := ez_11.trans ez_16.symm
      subst w_17
      refine lv_aload_n hx hb dX10_forkOf_50 rfl (lv_at hl 2 rfl) ?_
      refine lv_iload_n hx hb dX10_forkOf_51 rfl (lv_at hl 3 rfl) ?_
      refine lv_iload hx hb dX10_forkOf_52 (lv_at hl 1 rfl) ?_
      refine lv_iload_n hx hb dX10_forkOf_54 rfl (lv_at hl 4 rfl) ?_
      refine pu_calll (runV (As := [.int w, .int x6_5, .int z]) (rest := [.long z_11, .long x6_3]) ⟨hx, hb, hml, hown, hts⟩ (t_X10_outcome l D cy base τ G a h_a w ⟨by omega, by omega⟩ x6_5 z) sV_X10_366 hK (t_recv cf_11 hK hT h_a) ⟨Nat.le_trans hZ hS.1, hT⟩ ⟨Nat.le_of_ble_eq_true rfl, Nat.le_of_ble_eq_true rfl⟩ rfl hl.1 rfl (Nat.le_of_ble_eq_true rfl) dX10_forkOf_55 ⟨Nat.le_of_ble_eq_true rfl, Nat.le_of_ble_eq_true rfl⟩) (fun r_18 hr_18 => ?_)
      refine lv_aload_n hx hb dX10_forkOf_58 rfl (lv_at hl 2 rfl) ?_
      refine t_getr cf_11 hx hb hts hown hK hT h_a (k := 24) (P := fun q => τ q = 74) rfl (fun _ h9 => h9) fl_X10_55 (fun _ h9 => h9) dX10_forkOf_59 (fun q_19 eq_19 hq_19 => ?_)
      refine lv_iconst (v := 5) hx hb dX10_forkOf_62 (by decide) ?_
      refine t_iald (n := 30) (i := 5) rfl (by decide) hx hb hK hT hq_19 (hT.len hq_19 (by decide)) ⟨by decide, by decide⟩ dX10_forkOf_63 (fun z_20 ez_20 rz_20 => ?_)
      have ez_20 : z_20 = G.1 q_19 5 := ez_20
      refine lv_i2l hx hb dX10_forkOf_64 rfl ?_
      refine lv_topl (fun z_21 ez_21 => ?_)
      have tz_21 : z_21.toInt = z_20.toInt := by rw [ez_21]; exact wide_t z_20
      have az_21 := min_t z_20
      have bz_21 := max_t z_20
      refine lv_iload hx hb dX10_forkOf_65 (lv_at hl 1 rfl) ?_
      refine lv_iload_n hx hb dX10_forkOf_67 rfl (lv_at hl 4 rfl) ?_
      refine lv_icmp_ge (tgt := 76) hx hb dX10_forkOf_68 (by decide) (fun c_22 => ?_) (fun c_22 => ?_)
      · skip
        have tc_22 : z.toInt ≤ x6_5.toInt := (fa_le _ _).mp c_22
        refine lv_iload_n hx hb dX10_forkOf_76 rfl (lv_at hl 4 rfl) ?_
        refine lv_i2l hx hb dX10_forkOf_77 rfl ?_
        refine lv_topl (fun z_23 ez_23 => ?_)
        have tz_23 : z_23.toInt = z.toInt := by rw [ez_23]; exact wide_t z
        have az_23 := min_t z
        refine lv_lmul hx hb dX10_forkOf_78 ?_
        refine lv_topl (fun z_24 ez_24 => ?_)
        refine lv_ladd hx hb dX10_forkOf_79 ?_
        refine lv_topl (fun z_25 ez_25 => ?_)
        refine lv_lmul hx hb dX10_forkOf_80 ?_
        refine lv_topl (fun z_26 ez_26 => ?_)
        refine lv_ladd hx hb dX10_forkOf_81 ?_
        refine lv_topl (fun z_27 ez_27 => ?_)
        refine lv_lstore_n (lv' := [(3, .long z_27), (5, .int x6_5), (0, .ref a), (1, .int w), (2, .int z)]) hx hb dX10_forkOf_82 rfl hl (by decide) rfl (fun ls hl => ?_)
        obtain ⟨z_28, ez_28⟩ : ∃ y : Int32, y = x6_5 + 1 := ⟨_, rfl⟩
        have tz_28 : z_28.toInt = x6_5.toInt + 1 := add_t ez_28 (show -2147483648 ≤ x6_5.toInt + 1 by omega) (show x6_5.toInt + 1 < 2147483648 by omega)
        refine lv_iinc (v := z_28) (lv' := [(5, .int z_28), (3, .long z_27), (0, .ref a), (1, .int w), (2, .int z)]) hx hb dX10_forkOf_83 hl (k := 1) rfl (by rw [ez_28]; rfl) (by decide) rfl (fun ls hl => ?_)
        refine lv_goto (tgt := 17) hx hb dX10_forkOf_86 (by decide) ?_
        exact ih6 (z_27, z_28) _ _ _ (by show (1100 - z_28.toInt).toNat < (1100 - x6_5.toInt).toNat; omega) ⟨(by show 0 ≤ z_28.toInt; omega), (by show z_28.toInt ≤ 1100; omega), rfl, rfl, lv_sub hl [1, 0, 2, 3, 4] rfl⟩
      · skip
        have tc_22 : ¬ z.toInt ≤ x6_5.toInt := fun h => c_22 ((fa_le _ _).mpr h)
        have mc_22 : z.toInt ≤ 2147483647 := max_t z
        refine lv_iload hx hb dX10_forkOf_71 (lv_at hl 1 rfl) ?_
        refine lv_goto (tgt := 77) hx hb dX10_forkOf_73 (by decide) ?_
        refine lv_i2l hx hb dX10_forkOf_77 rfl ?_
        refine lv_topl (fun z_29 ez_29 => ?_)
        have tz_29 : z_29.toInt = x6_5.toInt := by rw [ez_29]; exact wide_t x6_5
        refine lv_lmul hx hb dX10_forkOf_78 ?_
        refine lv_topl (fun z_30 ez_30 => ?_)
        refine lv_ladd hx hb dX10_forkOf_79 ?_
        refine lv_topl (fun z_31 ez_31 => ?_)
        refine lv_lmul hx hb dX10_forkOf_80 ?_
        refine lv_topl (fun z_32 ez_32 => ?_)
        refine lv_ladd hx hb dX10_forkOf_81 ?_
        refine lv_topl (fun z_33 ez_33 => ?_)
        refine lv_lstore_n (lv' := [(3, .long z_33), (5, .int x6_5), (0, .ref a), (1, .int w), (2, .int z)]) hx hb dX10_forkOf_82 rfl hl (by decide) rfl (fun ls hl => ?_)
        obtain ⟨z_34, ez_34⟩ : ∃ y : Int32, y = x6_5 + 1 := ⟨_, rfl⟩
        have tz_34 : z_34.toInt = x6_5.toInt + 1 := add_t ez_34 (show -2147483648 ≤ x6_5.toInt + 1 by omega) (show x6_5.toInt + 1 < 2147483648 by omega)
        refine lv_iinc (v := z_34) (lv' := [(5, .int z_34), (3, .long z_33), (0, .ref a), (1, .int w), (2, .int z)]) hx hb dX10_forkOf_83 hl (k := 1) rfl (by rw [ez_34]; rfl) (by decide) rfl (fun ls hl => ?_)
        refine lv_goto (tgt := 17) hx hb dX10_forkOf_86 (by decide) ?_
        exact ih6 (z_33, z_34) _ _ _ (by show (1100 - z_34.toInt).toNat < (1100 - x6_5.toInt).toNat; omega) ⟨(by show 0 ≤ z_34.toInt; omega), (by show z_34.toInt ≤ 1100; omega), rfl, rfl, lv_sub hl [1, 0, 2, 3, 4] rfl⟩
    · skip
      have tc_13 : z_12.toInt = 0 := (fa_eq _ _).mp c_13
      refine lv_goto (tgt := 83) hx hb dX10_forkOf_39 (by decide) ?_
      obtain ⟨z_35, ez_35⟩ : ∃ y : Int32, y = x6_5 + 1 := ⟨_, rfl⟩
      have tz_35 : z_35.toInt = x6_5.toInt + 1 := add_t ez_35 (show -2147483648 ≤ x6_5.toInt + 1 by omega) (show x6_5.toInt + 1 < 2147483648 by omega)
      refine lv_iinc (v := z_35) (lv' := [(5, .int z_35), (3, .long x6_3), (0, .ref a), (1, .int w), (2, .int z)]) hx hb dX10_forkOf_83 hl (k := 1) rfl (by rw [ez_35]; rfl) (by decide) rfl (fun ls hl => ?_)
      refine lv_goto (tgt := 17) hx hb dX10_forkOf_86 (by decide) ?_
      exact ih6 (x6_3, z_35) _ _ _ (by show (1100 - z_35.toInt).toNat < (1100 - x6_5.toInt).toNat; omega) ⟨(by show 0 ≤ z_35.toInt; omega), (by show z_35.toInt ≤ 1100; omega), rfl, rfl, lv_sub hl [1, 0, 2, 3, 4] rfl⟩
set_option maxHeartbeats 4000000 in
set_option maxRecDepth 100000 in
theorem t_X10_middleOf (l : Launch) (D : va_G) (cy : Nat → ClassId) (base : Nat) (τ : Nat → Nat) (G : Gh) (a : Nat) (h_a : τ a = 11) (w : Int32) (r_w : 0 ≤ w.toInt ∧ w.toInt ≤ 2) : MM l yX10_middleOf cX10_middleOf 8 (some .int) 3 0 0 D cy [.ref a, .int w] (PT D cy base τ G) (PuI (fun r => 0 ≤ r.toInt ∧ r.toInt ≤ 999)) noF := by
  refine MM.of (by decide) (Nat.le_of_ble_eq_true rfl) ?_
  intro p e s m below meth c C hPT ls hl
  obtain ⟨hx, hb, hr, hml, hown, hts, hlocks, hK, hnm⟩ := C
  obtain ⟨hZ, hT⟩ := hPT
  have hS : va_S (RA base) s.heap s.heap [] := va_S.rf
  have hl : lv_has ls 8 [(0, .ref a), (1, .int w)] := hl
  refine lv_iconst (v := 0) hx hb dX10_middleOf_0 (by decide) ?_
  refine lv_istore_n (lv' := [(2, .int 0), (0, .ref a), (1, .int w)]) hx hb dX10_middleOf_1 rfl hl (by decide) rfl (fun ls hl => ?_)
  refine lv_aload_n hx hb dX10_middleOf_2 rfl (lv_at hl 1 rfl) ?_
  refine lv_iload_n hx hb dX10_middleOf_3 rfl (lv_at hl 2 rfl) ?_
  refine lv_iconst (v := 0) hx hb dX10_middleOf_4 (by decide) ?_
  refine pu_calll (runV (As := [.int w, .int 0]) (rest := []) ⟨hx, hb, hml, hown, hts⟩ (t_X10_forkOf l D cy base τ G a h_a w ⟨by omega, by omega⟩ 0) sV_X10_415 hK (t_recv cf_11 hK hT h_a) ⟨Nat.le_trans hZ hS.1, hT⟩ ⟨Nat.le_of_ble_eq_true rfl, Nat.le_of_ble_eq_true rfl⟩ rfl hl.1 rfl (Nat.le_of_ble_eq_true rfl) dX10_middleOf_5 ⟨Nat.le_of_ble_eq_true rfl, Nat.le_of_ble_eq_true rfl⟩) (fun r_1 hr_1 => ?_)
  refine lv_lstore_n (lv' := [(3, .long r_1), (2, .int 0), (0, .ref a), (1, .int w)]) hx hb dX10_middleOf_8 rfl hl (by decide) rfl (fun ls hl => ?_)
  refine lv_iconst (v := 1) hx hb dX10_middleOf_9 (by decide) ?_
  refine lv_istore (lv' := [(5, .int 1), (3, .long r_1), (2, .int 0), (0, .ref a), (1, .int w)]) hx hb dX10_middleOf_10 hl (by decide) rfl (fun ls hl => ?_)
  refine W.loop (σ := Int32 × Int64 × Int32) (fun w2 H locs ls => 0 ≤ w2.1.toInt ∧ w2.1.toInt ≤ 999 ∧ 1 ≤ w2.2.2.toInt ∧ w2.2.2.toInt ≤ 1000 ∧ H = s.heap ∧ locs = [] ∧ lv_has ls 8 [(2, .int w2.1), (3, .long w2.2.1), (5, .int w2.2.2), (0, .ref a), (1, .int w)]) (fun w2 => (1000 - w2.2.2.toInt).toNat) ?_ ((0 : Int32), r_1, (1 : Int32)) _ _ _ ⟨(by show 0 ≤ (0 : Int32).toInt; decide), (by show (0 : Int32).toInt ≤ 999; decide), (by show 1 ≤ (1 : Int32).toInt; decide), (by show (1 : Int32).toInt ≤ 1000; decide), rfl, rfl, lv_sub hl [2, 1, 0, 3, 4] rfl⟩
  intro w2 H locs ls hI ih2
  obtain ⟨x2_2, x2_3, x2_5⟩ := w2
  obtain ⟨i2_0, i2_1, i2_2, i2_3, rfl, rfl, hl⟩ := hI
  have i2_0 : 0 ≤ x2_2.toInt := i2_0
  have i2_1 : x2_2.toInt ≤ 999 := i2_1
  have i2_2 : 1 ≤ x2_5.toInt := i2_2
  have i2_3 : x2_5.toInt ≤ 1000 := i2_3
  have hl : lv_has ls 8 [(2, .int x2_2), (3, .long x2_3), (5, .int x2_5), (0, .ref a), (1, .int w)] := hl
  refine lv_iload hx hb dX10_middleOf_12 (lv_at hl 2 rfl) ?_
  refine lv_sipush (v := 999) hx hb dX10_middleOf_14 (by decide) ?_
  refine lv_icmp_gt (tgt := 51) hx hb dX10_middleOf_17 (by decide) (fun c_3 => ?_) (fun c_3 => ?_)
  · skip
    have tc_3 : 999 < x2_5.toInt := (fa_lt _ _).mp c_3
    refine lv_iload_n hx hb dX10_middleOf_51 rfl (lv_at hl 0 rfl) ?_
    exact ret_i hx hb hr hlocks ⟨rfl, _, rfl, ⟨(by omega), (by omega)⟩⟩ (fun _ h => absurd h List.not_mem_nil) (Nat.le_refl _) (Nat.le_refl _) dX10_middleOf_52
  · skip
    have tc_3 : ¬ 999 < x2_5.toInt := fun h => c_3 ((fa_lt _ _).mpr h)
    refine lv_aload_n hx hb dX10_middleOf_20 rfl (lv_at hl 3 rfl) ?_
    refine lv_iload_n hx hb dX10_middleOf_21 rfl (lv_at hl 4 rfl) ?_
    refine lv_iload hx hb dX10_middleOf_22 (lv_at hl 2 rfl) ?_
    refine pu_calll (runV (As := [.int w, .int x2_5]) (rest := []) ⟨hx, hb, hml, hown, hts⟩ (t_X10_forkOf l D cy base τ G a h_a w ⟨by omega, by omega⟩ x2_5) sV_X10_415 hK (t_recv cf_11 hK hT h_a) ⟨Nat.le_trans hZ hS.1, hT⟩ ⟨Nat.le_of_ble_eq_true rfl, Nat.le_of_ble_eq_true rfl⟩ rfl hl.1 rfl (Nat.le_of_ble_eq_true rfl) dX10_middleOf_24 ⟨Nat.le_of_ble_eq_true rfl, Nat.le_of_ble_eq_true rfl⟩) (fun r_4 hr_4 => ?_)
    refine lv_lstore (lv' := [(6, .long r_4), (2, .int x2_2), (3, .long x2_3), (5, .int x2_5), (0, .ref a), (1, .int w)]) hx hb dX10_middleOf_27 hl (by decide) rfl (fun ls hl => ?_)
    refine lv_lload hx hb dX10_middleOf_29 (lv_at hl 0 rfl) ?_
    refine lv_lload_n hx hb dX10_middleOf_31 rfl (lv_at hl 2 rfl) ?_
    refine W.lcmp hx hb dX10_middleOf_32 ?_
    refine lv_topi (fun z_5 ez_5 => ?_)
    have tz_5 : (z_5.toInt < 0 ↔ r_4.toInt < x2_3.toInt) ∧ (0 < z_5.toInt ↔ x2_3.toInt < r_4.toInt) ∧ -1 ≤ z_5.toInt ∧ z_5.toInt ≤ 1 := cmp_t ez_5
    refine lv_if_lt (tgt := 39) hx hb dX10_middleOf_33 (by decide) (fun c_6 => ?_) (fun c_6 => ?_)
    · skip
      have tc_6 : z_5.toInt < 0 := (fa_lt _ _).mp c_6
      refine lv_iload hx hb dX10_middleOf_39 (lv_at hl 3 rfl) ?_
      refine lv_istore_n (lv' := [(2, .int x2_5), (6, .long r_4), (3, .long x2_3), (5, .int x2_5), (0, .ref a), (1, .int w)]) hx hb dX10_middleOf_41 rfl hl (by decide) rfl (fun ls hl => ?_)
      refine lv_lload hx hb dX10_middleOf_42 (lv_at hl 1 rfl) ?_
      refine lv_lstore_n (lv' := [(3, .long r_4), (2, .int x2_5), (6, .long r_4), (5, .int x2_5), (0, .ref a), (1, .int w)]) hx hb dX10_middleOf_44 rfl hl (by decide) rfl (fun ls hl => ?_)
      obtain ⟨z_7, ez_7⟩ : ∃ y : Int32, y = x2_5 + 1 := ⟨_, rfl⟩
      have tz_7 : z_7.toInt = x2_5.toInt + 1 := add_t ez_7 (show -2147483648 ≤ x2_5.toInt + 1 by omega) (show x2_5.toInt + 1 < 2147483648 by omega)
      refine lv_iinc (v := z_7) (lv' := [(5, .int z_7), (3, .long r_4), (2, .int x2_5), (6, .long r_4), (0, .ref a), (1, .int w)]) hx hb dX10_middleOf_45 hl (k := 3) rfl (by rw [ez_7]; rfl) (by decide) rfl (fun ls hl => ?_)
      refine lv_goto (tgt := 12) hx hb dX10_middleOf_48 (by decide) ?_
      exact ih2 (x2_5, r_4, z_7) _ _ _ (by show (1000 - z_7.toInt).toNat < (1000 - x2_5.toInt).toNat; omega) ⟨(by show 0 ≤ x2_5.toInt; omega), (by show x2_5.toInt ≤ 999; omega), (by show 1 ≤ z_7.toInt; omega), (by show z_7.toInt ≤ 1000; omega), rfl, rfl, lv_sub hl [2, 1, 0, 4, 5] rfl⟩
    · skip
      have tc_6 : ¬ z_5.toInt < 0 := fun h => c_6 ((fa_lt _ _).mpr h)
      refine lv_goto (tgt := 45) hx hb dX10_middleOf_36 (by decide) ?_
      obtain ⟨z_8, ez_8⟩ : ∃ y : Int32, y = x2_5 + 1 := ⟨_, rfl⟩
      have tz_8 : z_8.toInt = x2_5.toInt + 1 := add_t ez_8 (show -2147483648 ≤ x2_5.toInt + 1 by omega) (show x2_5.toInt + 1 < 2147483648 by omega)
      refine lv_iinc (v := z_8) (lv' := [(5, .int z_8), (6, .long r_4), (2, .int x2_2), (3, .long x2_3), (0, .ref a), (1, .int w)]) hx hb dX10_middleOf_45 hl (k := 3) rfl (by rw [ez_8]; rfl) (by decide) rfl (fun ls hl => ?_)
      refine lv_goto (tgt := 12) hx hb dX10_middleOf_48 (by decide) ?_
      exact ih2 (x2_2, x2_3, z_8) _ _ _ (by show (1000 - z_8.toInt).toNat < (1000 - x2_5.toInt).toNat; omega) ⟨(by show 0 ≤ x2_2.toInt; omega), (by show x2_2.toInt ≤ 999; omega), (by show 1 ≤ z_8.toInt; omega), (by show z_8.toInt ≤ 1000; omega), rfl, rfl, lv_sub hl [2, 3, 0, 4, 5] rfl⟩
set_option maxHeartbeats 4000000 in
set_option maxRecDepth 100000 in
theorem t_X10_fork (l : Launch) (D : va_G) (cy : Nat → ClassId) (base : Nat) (τ : Nat → Nat) (G : Gh) (a : Nat) (h_a : τ a = 11) (v0 : Int32) (v1 : Int32) (v2 : Int32) (v3 : Int32) : MM l yX10_fork cX10_fork 5 (some .long) 5 0 0 D cy [.ref a, .int v0, .int v1, .int v2, .int v3] (PT D cy base τ G) (QT D cy base τ G [11, 80, 81, 82, 89] (fun v g => ∃ r : Int64, v = some (.long r) ∧ (True))) (RA base) := by
  refine MM.of (by decide) (Nat.le_of_ble_eq_true rfl) ?_
  intro p e s m below meth c C hPT ls hl
  obtain ⟨hx, hb, hr, hml, hown, hts, hlocks, hK, hnm⟩ := C
  obtain ⟨hZ, hT⟩ := hPT
  have hS : va_S (RA base) s.heap s.heap [] := va_S.rf
  have hF : Fr τ [11, 80, 81, 82, 89] G G := Fr.rf
  have hl : lv_has ls 5 [(0, .ref a), (1, .int v0), (2, .int v1), (3, .int v2), (4, .int v3)] := hl
  refine lv_aload_n hx hb dX10_fork_0 rfl (lv_at hl 0 rfl) ?_
  refine lv_iconst (v := 0) hx hb dX10_fork_1 (by decide) ?_
  refine t_puti (x := 0) cf_11 hx hb hts hown hK hT hS h_a (k := 0) rfl trivial fl_X10_111 (fun _ h9 => h9) rfl rfl rfl dX10_fork_2 (fun H locs G_1 eG_1 hT hS => ?_)
  have hF := hF.wI eG_1 h_a rfl
  refine lv_aload_n hx hb dX10_fork_5 rfl (lv_at hl 0 rfl) ?_
  refine lv_iload_n hx hb dX10_fork_6 rfl (lv_at hl 1 rfl) ?_
  refine lv_iload_n hx hb dX10_fork_7 rfl (lv_at hl 2 rfl) ?_
  refine pu_calli (runV (As := [.int v0, .int v1]) (rest := []) ⟨hx, hb, hml, hown, hts⟩ (t_X10_areTwo l D cy base τ G_1 a h_a v0 v1) sV_X10_323 hK (t_recv cf_11 hK hT h_a) ⟨Nat.le_trans hZ hS.1, hT⟩ ⟨Nat.le_of_ble_eq_true rfl, Nat.le_of_ble_eq_true rfl⟩ rfl hl.1 rfl (Nat.le_of_ble_eq_true rfl) dX10_fork_8 ⟨Nat.le_of_ble_eq_true rfl, Nat.le_of_ble_eq_true rfl⟩) (fun r_2 hr_2 => ?_)
  have hr_2_c := hr_2
  rcases hr_2_c with hr_2_0 | hr_2_1
  · skip
    obtain ⟨er_2, hr_2_0_f0, hr_2_0_f1, hr_2_0_f2, hr_2_0_f3⟩ := hr_2_0
    have hr_2_0_f0 : 0 ≤ v0.toInt := hr_2_0_f0
    have hr_2_0_f1 : v0.toInt ≤ 5 := hr_2_0_f1
    have hr_2_0_f2 : 0 ≤ v1.toInt := hr_2_0_f2
    have hr_2_0_f3 : v1.toInt ≤ 5 := hr_2_0_f3
    subst er_2
    refine W.eq (g2 := F0 m 11 ls [.int 1]) rfl ?_
    refine lv_if_eq (tgt := 31) hx hb dX10_fork_11 (by decide) (fun c_3 => absurd c_3 (by decide)) (fun _ => ?_)
    refine lv_aload_n hx hb dX10_fork_14 rfl (lv_at hl 0 rfl) ?_
    refine lv_iload_n hx hb dX10_fork_15 rfl (lv_at hl 3 rfl) ?_
    refine pu_calli (runV (As := [.int v2]) (rest := []) ⟨hx, hb, hml, hown, hts⟩ (t_X10_isThing l D cy base τ G_1 a h_a v2) sV_X10_350 hK (t_recv cf_11 hK hT h_a) ⟨Nat.le_trans hZ hS.1, hT⟩ ⟨Nat.le_of_ble_eq_true rfl, Nat.le_of_ble_eq_true rfl⟩ rfl hl.1 rfl (Nat.le_of_ble_eq_true rfl) dX10_fork_16 ⟨Nat.le_of_ble_eq_true rfl, Nat.le_of_ble_eq_true rfl⟩) (fun r_4 hr_4 => ?_)
    have hr_4_c := hr_4
    rcases hr_4_c with hr_4_0 | hr_4_1
    · skip
      obtain ⟨er_4, hr_4_0_f0, hr_4_0_f1⟩ := hr_4_0
      have hr_4_0_f0 : 0 ≤ v2.toInt := hr_4_0_f0
      have hr_4_0_f1 : v2.toInt ≤ 2 := hr_4_0_f1
      subst er_4
      refine W.eq (g2 := F0 m 19 ls [.int 1]) rfl ?_
      refine lv_if_eq (tgt := 31) hx hb dX10_fork_19 (by decide) (fun c_5 => absurd c_5 (by decide)) (fun _ => ?_)
      refine lv_aload_n hx hb dX10_fork_22 rfl (lv_at hl 0 rfl) ?_
      refine lv_iload hx hb dX10_fork_23 (lv_at hl 4 rfl) ?_
      refine pu_calli (runV (As := [.int v3]) (rest := []) ⟨hx, hb, hml, hown, hts⟩ (t_X10_areSacks l D cy base τ G_1 a h_a v3) sV_X10_372 hK (t_recv cf_11 hK hT h_a) ⟨Nat.le_trans hZ hS.1, hT⟩ ⟨Nat.le_of_ble_eq_true rfl, Nat.le_of_ble_eq_true rfl⟩ rfl hl.1 rfl (Nat.le_of_ble_eq_true rfl) dX10_fork_25 ⟨Nat.le_of_ble_eq_true rfl, Nat.le_of_ble_eq_true rfl⟩) (fun r_6 hr_6 => ?_)
      have hr_6_c := hr_6
      rcases hr_6_c with hr_6_0 | hr_6_1
      · skip
        obtain ⟨er_6, hr_6_0_f0, hr_6_0_f1⟩ := hr_6_0
        have hr_6_0_f0 : 0 ≤ v3.toInt := hr_6_0_f0
        have hr_6_0_f1 : v3.toInt ≤ 999 := hr_6_0_f1
        subst er_6
        refine W.eq (g2 := F0 m 28 ls [.int 1]) rfl ?_
        refine lv_if_ne (tgt := 35) hx hb dX10_fork_28 (by decide) (fun _ => ?_) (fun c_7 => absurd c_7 (by decide))
        refine lv_aload_n hx hb dX10_fork_35 rfl (lv_at hl 0 rfl) ?_
        refine lv_iload_n hx hb dX10_fork_36 rfl (lv_at hl 1 rfl) ?_
        refine lv_iload_n hx hb dX10_fork_37 rfl (lv_at hl 2 rfl) ?_
        refine lv_iload_n hx hb dX10_fork_38 rfl (lv_at hl 3 rfl) ?_
        refine t_callv (runV (As := [.int v0, .int v1, .int v2]) (rest := []) ⟨hx, hb, hml, hown, hts⟩ (t_X10_forks l D cy base τ G_1 a h_a v0 ⟨by omega, by omega⟩ v1 ⟨by omega, by omega⟩ v2 ⟨by omega, by omega⟩) sV_X10_418 hK (t_recv cf_11 hK hT h_a) ⟨Nat.le_trans hZ hS.1, hT⟩ ⟨Nat.le_of_ble_eq_true rfl, Nat.le_of_ble_eq_true rfl⟩ rfl hl.1 rfl (Nat.le_of_ble_eq_true rfl) dX10_fork_39 ⟨Nat.le_of_ble_eq_true rfl, Nat.le_of_ble_eq_true rfl⟩) hS (fun G_8 H locs hF_8 hr_8 hT hS => ?_)
        have hF := hF.tr hF_8 rfl
        refine lv_aload_n hx hb dX10_fork_42 rfl (lv_at hl 0 rfl) ?_
        refine lv_iload_n hx hb dX10_fork_43 rfl (lv_at hl 3 rfl) ?_
        refine lv_iload hx hb dX10_fork_44 (lv_at hl 4 rfl) ?_
        refine pu_calll (runV (As := [.int v2, .int v3]) (rest := []) ⟨hx, hb, hml, hown, hts⟩ (t_X10_forkOf l D cy base τ G_8 a h_a v2 ⟨by omega, by omega⟩ v3) sV_X10_415 hK (t_recv cf_11 hK hT h_a) ⟨Nat.le_trans hZ hS.1, hT⟩ ⟨Nat.le_of_ble_eq_true rfl, Nat.le_of_ble_eq_true rfl⟩ rfl hl.1 rfl (Nat.le_of_ble_eq_true rfl) dX10_fork_46 ⟨Nat.le_of_ble_eq_true rfl, Nat.le_of_ble_eq_true rfl⟩) (fun r_9 hr_9 => ?_)
        refine lv_ldc2 (v := 1000000000) hx hb hown (hts _ kl_X10_345) dX10_fork_49 ?_
        refine lv_ldiv hx hb dX10_fork_52 (by decide) ?_
        refine lv_topl (fun z_10 ez_10 => ?_)
        exact ret_l hx hb hr hlocks ⟨⟨hS.1, hS.2.1⟩, G_8, hF, ⟨_, rfl, trivial⟩, hT⟩ hS.2.2 (Nat.le_of_ble_eq_true rfl) (Nat.le_of_ble_eq_true rfl) dX10_fork_53
      · skip
        have er_6 := hr_6_1
        subst er_6
        refine W.eq (g2 := F0 m 28 ls [.int 0]) rfl ?_
        refine lv_if_ne (tgt := 35) hx hb dX10_fork_28 (by decide) (fun c_11 => absurd rfl c_11) (fun _ => ?_)
        refine lv_ldc2 (v := (-2)) hx hb hown (hts _ kl_X10_300) dX10_fork_31 ?_
        exact ret_l hx hb hr hlocks ⟨⟨hS.1, hS.2.1⟩, G_1, hF, ⟨_, rfl, trivial⟩, hT⟩ hS.2.2 (Nat.le_of_ble_eq_true rfl) (Nat.le_of_ble_eq_true rfl) dX10_fork_34
    · skip
      have er_4 := hr_4_1
      subst er_4
      refine W.eq (g2 := F0 m 19 ls [.int 0]) rfl ?_
      refine lv_if_eq (tgt := 31) hx hb dX10_fork_19 (by decide) (fun _ => ?_) (fun c_12 => absurd (by decide) c_12)
      refine lv_ldc2 (v := (-2)) hx hb hown (hts _ kl_X10_300) dX10_fork_31 ?_
      exact ret_l hx hb hr hlocks ⟨⟨hS.1, hS.2.1⟩, G_1, hF, ⟨_, rfl, trivial⟩, hT⟩ hS.2.2 (Nat.le_of_ble_eq_true rfl) (Nat.le_of_ble_eq_true rfl) dX10_fork_34
  · skip
    have er_2 := hr_2_1
    subst er_2
    refine W.eq (g2 := F0 m 11 ls [.int 0]) rfl ?_
    refine lv_if_eq (tgt := 31) hx hb dX10_fork_11 (by decide) (fun _ => ?_) (fun c_13 => absurd (by decide) c_13)
    refine lv_ldc2 (v := (-2)) hx hb hown (hts _ kl_X10_300) dX10_fork_31 ?_
    exact ret_l hx hb hr hlocks ⟨⟨hS.1, hS.2.1⟩, G_1, hF, ⟨_, rfl, trivial⟩, hT⟩ hS.2.2 (Nat.le_of_ble_eq_true rfl) (Nat.le_of_ble_eq_true rfl) dX10_fork_34
set_option maxHeartbeats 4000000 in
set_option maxRecDepth 100000 in
theorem t_X10_middle (l : Launch) (D : va_G) (cy : Nat → ClassId) (base : Nat) (τ : Nat → Nat) (G : Gh) (a : Nat) (h_a : τ a = 11) (v0 : Int32) (v1 : Int32) (v2 : Int32) : MM l yX10_middle cX10_middle 4 (some .int) 5 0 0 D cy [.ref a, .int v0, .int v1, .int v2] (PT D cy base τ G) (QT D cy base τ G [11, 80, 81, 82, 89] (fun v g => ∃ r : Int32, v = some (.int r) ∧ (True))) (RA base) := by
  refine MM.of (by decide) (Nat.le_of_ble_eq_true rfl) ?_
  intro p e s m below meth c C hPT ls hl
  obtain ⟨hx, hb, hr, hml, hown, hts, hlocks, hK, hnm⟩ := C
  obtain ⟨hZ, hT⟩ := hPT
  have hS : va_S (RA base) s.heap s.heap [] := va_S.rf
  have hF : Fr τ [11, 80, 81, 82, 89] G G := Fr.rf
  have hl : lv_has ls 4 [(0, .ref a), (1, .int v0), (2, .int v1), (3, .int v2)] := hl
  refine lv_aload_n hx hb dX10_middle_0 rfl (lv_at hl 0 rfl) ?_
  refine lv_iconst (v := 0) hx hb dX10_middle_1 (by decide) ?_
  refine t_puti (x := 0) cf_11 hx hb hts hown hK hT hS h_a (k := 0) rfl trivial fl_X10_111 (fun _ h9 => h9) rfl rfl rfl dX10_middle_2 (fun H locs G_1 eG_1 hT hS => ?_)
  have hF := hF.wI eG_1 h_a rfl
  refine lv_aload_n hx hb dX10_middle_5 rfl (lv_at hl 0 rfl) ?_
  refine lv_iload_n hx hb dX10_middle_6 rfl (lv_at hl 1 rfl) ?_
  refine lv_iload_n hx hb dX10_middle_7 rfl (lv_at hl 2 rfl) ?_
  refine pu_calli (runV (As := [.int v0, .int v1]) (rest := []) ⟨hx, hb, hml, hown, hts⟩ (t_X10_areTwo l D cy base τ G_1 a h_a v0 v1) sV_X10_323 hK (t_recv cf_11 hK hT h_a) ⟨Nat.le_trans hZ hS.1, hT⟩ ⟨Nat.le_of_ble_eq_true rfl, Nat.le_of_ble_eq_true rfl⟩ rfl hl.1 rfl (Nat.le_of_ble_eq_true rfl) dX10_middle_8 ⟨Nat.le_of_ble_eq_true rfl, Nat.le_of_ble_eq_true rfl⟩) (fun r_2 hr_2 => ?_)
  have hr_2_c := hr_2
  rcases hr_2_c with hr_2_0 | hr_2_1
  · skip
    obtain ⟨er_2, hr_2_0_f0, hr_2_0_f1, hr_2_0_f2, hr_2_0_f3⟩ := hr_2_0
    have hr_2_0_f0 : 0 ≤ v0.toInt := hr_2_0_f0
    have hr_2_0_f1 : v0.toInt ≤ 5 := hr_2_0_f1
    have hr_2_0_f2 : 0 ≤ v1.toInt := hr_2_0_f2
    have hr_2_0_f3 : v1.toInt ≤ 5 := hr_2_0_f3
    subst er_2
    refine W.eq (g2 := F0 m 11 ls [.int 1]) rfl ?_
    refine lv_if_eq (tgt := 22) hx hb dX10_middle_11 (by decide) (fun c_3 => absurd c_3 (by decide)) (fun _ => ?_)
    refine lv_aload_n hx hb dX10_middle_14 rfl (lv_at hl 0 rfl) ?_
    refine lv_iload_n hx hb dX10_middle_15 rfl (lv_at hl 3 rfl) ?_
    refine pu_calli (runV (As := [.int v2]) (rest := []) ⟨hx, hb, hml, hown, hts⟩ (t_X10_isThing l D cy base τ G_1 a h_a v2) sV_X10_350 hK (t_recv cf_11 hK hT h_a) ⟨Nat.le_trans hZ hS.1, hT⟩ ⟨Nat.le_of_ble_eq_true rfl, Nat.le_of_ble_eq_true rfl⟩ rfl hl.1 rfl (Nat.le_of_ble_eq_true rfl) dX10_middle_16 ⟨Nat.le_of_ble_eq_true rfl, Nat.le_of_ble_eq_true rfl⟩) (fun r_4 hr_4 => ?_)
    have hr_4_c := hr_4
    rcases hr_4_c with hr_4_0 | hr_4_1
    · skip
      obtain ⟨er_4, hr_4_0_f0, hr_4_0_f1⟩ := hr_4_0
      have hr_4_0_f0 : 0 ≤ v2.toInt := hr_4_0_f0
      have hr_4_0_f1 : v2.toInt ≤ 2 := hr_4_0_f1
      subst er_4
      refine W.eq (g2 := F0 m 19 ls [.int 1]) rfl ?_
      refine lv_if_ne (tgt := 25) hx hb dX10_middle_19 (by decide) (fun _ => ?_) (fun c_5 => absurd c_5 (by decide))
      refine lv_aload_n hx hb dX10_middle_25 rfl (lv_at hl 0 rfl) ?_
      refine lv_iload_n hx hb dX10_middle_26 rfl (lv_at hl 1 rfl) ?_
      refine lv_iload_n hx hb dX10_middle_27 rfl (lv_at hl 2 rfl) ?_
      refine lv_iload_n hx hb dX10_middle_28 rfl (lv_at hl 3 rfl) ?_
      refine t_callv (runV (As := [.int v0, .int v1, .int v2]) (rest := []) ⟨hx, hb, hml, hown, hts⟩ (t_X10_forks l D cy base τ G_1 a h_a v0 ⟨by omega, by omega⟩ v1 ⟨by omega, by omega⟩ v2 ⟨by omega, by omega⟩) sV_X10_418 hK (t_recv cf_11 hK hT h_a) ⟨Nat.le_trans hZ hS.1, hT⟩ ⟨Nat.le_of_ble_eq_true rfl, Nat.le_of_ble_eq_true rfl⟩ rfl hl.1 rfl (Nat.le_of_ble_eq_true rfl) dX10_middle_29 ⟨Nat.le_of_ble_eq_true rfl, Nat.le_of_ble_eq_true rfl⟩) hS (fun G_6 H locs hF_6 hr_6 hT hS => ?_)
      have hF := hF.tr hF_6 rfl
      refine lv_aload_n hx hb dX10_middle_32 rfl (lv_at hl 0 rfl) ?_
      refine lv_iload_n hx hb dX10_middle_33 rfl (lv_at hl 3 rfl) ?_
      refine pu_calli (runV (As := [.int v2]) (rest := []) ⟨hx, hb, hml, hown, hts⟩ (t_X10_middleOf l D cy base τ G_6 a h_a v2 ⟨by omega, by omega⟩) sV_X10_422 hK (t_recv cf_11 hK hT h_a) ⟨Nat.le_trans hZ hS.1, hT⟩ ⟨Nat.le_of_ble_eq_true rfl, Nat.le_of_ble_eq_true rfl⟩ rfl hl.1 rfl (Nat.le_of_ble_eq_true rfl) dX10_middle_34 ⟨Nat.le_of_ble_eq_true rfl, Nat.le_of_ble_eq_true rfl⟩) (fun r_7 hr_7 => ?_)
      obtain ⟨hr_7_lo, hr_7_hi⟩ := hr_7
      have hr_7_lo : 0 ≤ r_7.toInt := hr_7_lo
      have hr_7_hi : r_7.toInt ≤ 999 := hr_7_hi
      exact ret_i hx hb hr hlocks ⟨⟨hS.1, hS.2.1⟩, G_6, hF, ⟨_, rfl, trivial⟩, hT⟩ hS.2.2 (Nat.le_of_ble_eq_true rfl) (Nat.le_of_ble_eq_true rfl) dX10_middle_37
    · skip
      have er_4 := hr_4_1
      subst er_4
      refine W.eq (g2 := F0 m 19 ls [.int 0]) rfl ?_
      refine lv_if_ne (tgt := 25) hx hb dX10_middle_19 (by decide) (fun c_8 => absurd rfl c_8) (fun _ => ?_)
      refine lv_bipush (v := (-2)) hx hb dX10_middle_22 (by decide) ?_
      exact ret_i hx hb hr hlocks ⟨⟨hS.1, hS.2.1⟩, G_1, hF, ⟨_, rfl, trivial⟩, hT⟩ hS.2.2 (Nat.le_of_ble_eq_true rfl) (Nat.le_of_ble_eq_true rfl) dX10_middle_24
  · skip
    have er_2 := hr_2_1
    subst er_2
    refine W.eq (g2 := F0 m 11 ls [.int 0]) rfl ?_
    refine lv_if_eq (tgt := 22) hx hb dX10_middle_11 (by decide) (fun _ => ?_) (fun c_9 => absurd (by decide) c_9)
    refine lv_bipush (v := (-2)) hx hb dX10_middle_22 (by decide) ?_
    exact ret_i hx hb hr hlocks ⟨⟨hS.1, hS.2.1⟩, G_1, hF, ⟨_, rfl, trivial⟩, hT⟩ hS.2.2 (Nat.le_of_ble_eq_true rfl) (Nat.le_of_ble_eq_true rfl) dX10_middle_24
set_option maxHeartbeats 4000000 in
set_option maxRecDepth 100000 in
theorem t_X10_shares (l : Launch) (D : va_G) (cy : Nat → ClassId) (base : Nat) (τ : Nat → Nat) (G : Gh) (a : Nat) (h_a : τ a = 11) (v0 : Int32) (v1 : Int32) (v2 : Int32) : MM l yX10_shares cX10_shares 6 (some .long) 5 0 0 D cy [.ref a, .int v0, .int v1, .int v2] (PT D cy base τ G) (QT D cy base τ G [11, 79, 80, 81, 82, 89] (fun v g => ∃ r : Int64, v = some (.long r) ∧ (True))) (RA base) := by
  refine MM.of (by decide) (Nat.le_of_ble_eq_true rfl) ?_
  intro p e s m below meth c C hPT ls hl
  obtain ⟨hx, hb, hr, hml, hown, hts, hlocks, hK, hnm⟩ := C
  obtain ⟨hZ, hT⟩ := hPT
  have hS : va_S (RA base) s.heap s.heap [] := va_S.rf
  have hF : Fr τ [11, 79, 80, 81, 82, 89] G G := Fr.rf
  have hl : lv_has ls 6 [(0, .ref a), (1, .int v0), (2, .int v1), (3, .int v2)] := hl
  refine lv_aload_n hx hb dX10_shares_0 rfl (lv_at hl 0 rfl) ?_
  refine lv_iconst (v := 0) hx hb dX10_shares_1 (by decide) ?_
  refine t_puti (x := 0) cf_11 hx hb hts hown hK hT hS h_a (k := 0) rfl trivial fl_X10_111 (fun _ h9 => h9) rfl rfl rfl dX10_shares_2 (fun H locs G_1 eG_1 hT hS => ?_)
  have hF := hF.wI eG_1 h_a rfl
  refine lv_aload_n hx hb dX10_shares_5 rfl (lv_at hl 0 rfl) ?_
  refine lv_iload_n hx hb dX10_shares_6 rfl (lv_at hl 1 rfl) ?_
  refine lv_iload_n hx hb dX10_shares_7 rfl (lv_at hl 2 rfl) ?_
  refine pu_calli (runV (As := [.int v0, .int v1]) (rest := []) ⟨hx, hb, hml, hown, hts⟩ (t_X10_areTwo l D cy base τ G_1 a h_a v0 v1) sV_X10_323 hK (t_recv cf_11 hK hT h_a) ⟨Nat.le_trans hZ hS.1, hT⟩ ⟨Nat.le_of_ble_eq_true rfl, Nat.le_of_ble_eq_true rfl⟩ rfl hl.1 rfl (Nat.le_of_ble_eq_true rfl) dX10_shares_8 ⟨Nat.le_of_ble_eq_true rfl, Nat.le_of_ble_eq_true rfl⟩) (fun r_2 hr_2 => ?_)
  have hr_2_c := hr_2
  rcases hr_2_c with hr_2_0 | hr_2_1
  · skip
    obtain ⟨er_2, hr_2_0_f0, hr_2_0_f1, hr_2_0_f2, hr_2_0_f3⟩ := hr_2_0
    have hr_2_0_f0 : 0 ≤ v0.toInt := hr_2_0_f0
    have hr_2_0_f1 : v0.toInt ≤ 5 := hr_2_0_f1
    have hr_2_0_f2 : 0 ≤ v1.toInt := hr_2_0_f2
    have hr_2_0_f3 : v1.toInt ≤ 5 := hr_2_0_f3
    subst er_2
    refine W.eq (g2 := F0 m 11 ls [.int 1]) rfl ?_
    refine lv_if_eq (tgt := 22) hx hb dX10_shares_11 (by decide) (fun c_3 => absurd c_3 (by decide)) (fun _ => ?_)
    refine lv_aload_n hx hb dX10_shares_14 rfl (lv_at hl 0 rfl) ?_
    refine lv_iload_n hx hb dX10_shares_15 rfl (lv_at hl 3 rfl) ?_
    refine pu_calli (runV (As := [.int v2]) (rest := []) ⟨hx, hb, hml, hown, hts⟩ (t_X10_isThing l D cy base τ G_1 a h_a v2) sV_X10_350 hK (t_recv cf_11 hK hT h_a) ⟨Nat.le_trans hZ hS.1, hT⟩ ⟨Nat.le_of_ble_eq_true rfl, Nat.le_of_ble_eq_true rfl⟩ rfl hl.1 rfl (Nat.le_of_ble_eq_true rfl) dX10_shares_16 ⟨Nat.le_of_ble_eq_true rfl, Nat.le_of_ble_eq_true rfl⟩) (fun r_4 hr_4 => ?_)
    have hr_4_c := hr_4
    rcases hr_4_c with hr_4_0 | hr_4_1
    · skip
      obtain ⟨er_4, hr_4_0_f0, hr_4_0_f1⟩ := hr_4_0
      have hr_4_0_f0 : 0 ≤ v2.toInt := hr_4_0_f0
      have hr_4_0_f1 : v2.toInt ≤ 2 := hr_4_0_f1
      subst er_4
      refine W.eq (g2 := F0 m 19 ls [.int 1]) rfl ?_
      refine lv_if_ne (tgt := 26) hx hb dX10_shares_19 (by decide) (fun _ => ?_) (fun c_5 => absurd c_5 (by decide))
      refine lv_aload_n hx hb dX10_shares_26 rfl (lv_at hl 0 rfl) ?_
      refine lv_iload_n hx hb dX10_shares_27 rfl (lv_at hl 1 rfl) ?_
      refine t_callv (runV (As := [.int v0]) (rest := []) ⟨hx, hb, hml, hown, hts⟩ (t_X10_splits l D cy base τ G_1 a h_a v0 ⟨by omega, by omega⟩) sV_X10_302 hK (t_recv cf_11 hK hT h_a) ⟨Nat.le_trans hZ hS.1, hT⟩ ⟨Nat.le_of_ble_eq_true rfl, Nat.le_of_ble_eq_true rfl⟩ rfl hl.1 rfl (Nat.le_of_ble_eq_true rfl) dX10_shares_28 ⟨Nat.le_of_ble_eq_true rfl, Nat.le_of_ble_eq_true rfl⟩) hS (fun G_6 H locs hF_6 hr_6 hT hS => ?_)
      have hF := hF.tr hF_6 rfl
      refine lv_aload_n hx hb dX10_shares_31 rfl (lv_at hl 0 rfl) ?_
      refine lv_iload_n hx hb dX10_shares_32 rfl (lv_at hl 1 rfl) ?_
      refine lv_iload_n hx hb dX10_shares_33 rfl (lv_at hl 3 rfl) ?_
      refine lv_aload_n hx hb dX10_shares_34 rfl (lv_at hl 0 rfl) ?_
      refine lv_iload_n hx hb dX10_shares_35 rfl (lv_at hl 1 rfl) ?_
      refine lv_iload_n hx hb dX10_shares_36 rfl (lv_at hl 3 rfl) ?_
      refine pu_calli (runV (As := [.int v0, .int v2]) (rest := [.int v2, .int v0, .ref a]) ⟨hx, hb, hml, hown, hts⟩ (t_X10_bestOf l D cy base τ G_6 a h_a v0 ⟨by omega, by omega⟩ v2 ⟨by omega, by omega⟩) sV_X10_383 hK (t_recv cf_11 hK hT h_a) ⟨Nat.le_trans hZ hS.1, hT⟩ ⟨Nat.le_of_ble_eq_true rfl, Nat.le_of_ble_eq_true rfl⟩ rfl hl.1 rfl (Nat.le_of_ble_eq_true rfl) dX10_shares_37 ⟨Nat.le_of_ble_eq_true rfl, Nat.le_of_ble_eq_true rfl⟩) (fun r_7 hr_7 => ?_)
      obtain ⟨hr_7_lo, hr_7_hi⟩ := hr_7
      have hr_7_lo : 0 ≤ r_7.toInt := hr_7_lo
      have hr_7_hi : r_7.toInt ≤ 999 := hr_7_hi
      refine pu_calll (runV (As := [.int v0, .int v2, .int r_7]) (rest := []) ⟨hx, hb, hml, hown, hts⟩ (t_X10_costOf l D cy base τ G_6 a h_a v0 ⟨by omega, by omega⟩ v2 ⟨by omega, by omega⟩ r_7) sV_X10_378 hK (t_recv cf_11 hK hT h_a) ⟨Nat.le_trans hZ hS.1, hT⟩ ⟨Nat.le_of_ble_eq_true rfl, Nat.le_of_ble_eq_true rfl⟩ rfl hl.1 rfl (Nat.le_of_ble_eq_true rfl) dX10_shares_40 ⟨Nat.le_of_ble_eq_true rfl, Nat.le_of_ble_eq_true rfl⟩) (fun r_8 hr_8 => ?_)
      refine lv_lstore (lv' := [(4, .long r_8), (0, .ref a), (1, .int v0), (2, .int v1), (3, .int v2)]) hx hb dX10_shares_43 hl (by decide) rfl (fun ls hl => ?_)
      refine lv_aload_n hx hb dX10_shares_45 rfl (lv_at hl 1 rfl) ?_
      refine lv_iload_n hx hb dX10_shares_46 rfl (lv_at hl 3 rfl) ?_
      refine t_callv (runV (As := [.int v1]) (rest := []) ⟨hx, hb, hml, hown, hts⟩ (t_X10_splits l D cy base τ G_6 a h_a v1 ⟨by omega, by omega⟩) sV_X10_302 hK (t_recv cf_11 hK hT h_a) ⟨Nat.le_trans hZ hS.1, hT⟩ ⟨Nat.le_of_ble_eq_true rfl, Nat.le_of_ble_eq_true rfl⟩ rfl hl.1 rfl (Nat.le_of_ble_eq_true rfl) dX10_shares_47 ⟨Nat.le_of_ble_eq_true rfl, Nat.le_of_ble_eq_true rfl⟩) hS (fun G_9 H locs hF_9 hr_9 hT hS => ?_)
      have hF := hF.tr hF_9 rfl
      refine lv_lload hx hb dX10_shares_50 (lv_at hl 0 rfl) ?_
      refine lv_aload_n hx hb dX10_shares_52 rfl (lv_at hl 1 rfl) ?_
      refine lv_iload_n hx hb dX10_shares_53 rfl (lv_at hl 3 rfl) ?_
      refine lv_iload_n hx hb dX10_shares_54 rfl (lv_at hl 4 rfl) ?_
      refine lv_aload_n hx hb dX10_shares_55 rfl (lv_at hl 1 rfl) ?_
      refine lv_iload_n hx hb dX10_shares_56 rfl (lv_at hl 3 rfl) ?_
      refine lv_iload_n hx hb dX10_shares_57 rfl (lv_at hl 4 rfl) ?_
      refine pu_calli (runV (As := [.int v1, .int v2]) (rest := [.int v2, .int v1, .ref a, .long r_8]) ⟨hx, hb, hml, hown, hts⟩ (t_X10_bestOf l D cy base τ G_9 a h_a v1 ⟨by omega, by omega⟩ v2 ⟨by omega, by omega⟩) sV_X10_383 hK (t_recv cf_11 hK hT h_a) ⟨Nat.le_trans hZ hS.1, hT⟩ ⟨Nat.le_of_ble_eq_true rfl, Nat.le_of_ble_eq_true rfl⟩ rfl hl.1 rfl (Nat.le_of_ble_eq_true rfl) dX10_shares_58 ⟨Nat.le_of_ble_eq_true rfl, Nat.le_of_ble_eq_true rfl⟩) (fun r_10 hr_10 => ?_)
      obtain ⟨hr_10_lo, hr_10_hi⟩ := hr_10
      have hr_10_lo : 0 ≤ r_10.toInt := hr_10_lo
      have hr_10_hi : r_10.toInt ≤ 999 := hr_10_hi
      refine pu_calll (runV (As := [.int v1, .int v2, .int r_10]) (rest := [.long r_8]) ⟨hx, hb, hml, hown, hts⟩ (t_X10_costOf l D cy base τ G_9 a h_a v1 ⟨by omega, by omega⟩ v2 ⟨by omega, by omega⟩ r_10) sV_X10_378 hK (t_recv cf_11 hK hT h_a) ⟨Nat.le_trans hZ hS.1, hT⟩ ⟨Nat.le_of_ble_eq_true rfl, Nat.le_of_ble_eq_true rfl⟩ rfl hl.1 rfl (Nat.le_of_ble_eq_true rfl) dX10_shares_61 ⟨Nat.le_of_ble_eq_true rfl, Nat.le_of_ble_eq_true rfl⟩) (fun r_11 hr_11 => ?_)
      refine lv_ladd hx hb dX10_shares_64 ?_
      refine lv_topl (fun z_12 ez_12 => ?_)
      refine lv_lstore (lv' := [(4, .long z_12), (0, .ref a), (1, .int v0), (2, .int v1), (3, .int v2)]) hx hb dX10_shares_65 hl (by decide) rfl (fun ls hl => ?_)
      refine lv_aload_n hx hb dX10_shares_67 rfl (lv_at hl 1 rfl) ?_
      refine lv_iload_n hx hb dX10_shares_68 rfl (lv_at hl 2 rfl) ?_
      refine lv_iload_n hx hb dX10_shares_69 rfl (lv_at hl 3 rfl) ?_
      refine lv_iload_n hx hb dX10_shares_70 rfl (lv_at hl 4 rfl) ?_
      refine t_callv (runV (As := [.int v0, .int v1, .int v2]) (rest := []) ⟨hx, hb, hml, hown, hts⟩ (t_X10_forks l D cy base τ G_9 a h_a v0 ⟨by omega, by omega⟩ v1 ⟨by omega, by omega⟩ v2 ⟨by omega, by omega⟩) sV_X10_418 hK (t_recv cf_11 hK hT h_a) ⟨Nat.le_trans hZ hS.1, hT⟩ ⟨Nat.le_of_ble_eq_true rfl, Nat.le_of_ble_eq_true rfl⟩ rfl hl.1 rfl (Nat.le_of_ble_eq_true rfl) dX10_shares_71 ⟨Nat.le_of_ble_eq_true rfl, Nat.le_of_ble_eq_true rfl⟩) hS (fun G_13 H locs hF_13 hr_13 hT hS => ?_)
      have hF := hF.tr hF_13 rfl
      refine lv_lload hx hb dX10_shares_74 (lv_at hl 0 rfl) ?_
      refine lv_aload_n hx hb dX10_shares_76 rfl (lv_at hl 1 rfl) ?_
      refine lv_iload_n hx hb dX10_shares_77 rfl (lv_at hl 4 rfl) ?_
      refine lv_aload_n hx hb dX10_shares_78 rfl (lv_at hl 1 rfl) ?_
      refine lv_iload_n hx hb dX10_shares_79 rfl (lv_at hl 4 rfl) ?_
      refine pu_calli (runV (As := [.int v2]) (rest := [.int v2, .ref a, .long z_12]) ⟨hx, hb, hml, hown, hts⟩ (t_X10_middleOf l D cy base τ G_13 a h_a v2 ⟨by omega, by omega⟩) sV_X10_422 hK (t_recv cf_11 hK hT h_a) ⟨Nat.le_trans hZ hS.1, hT⟩ ⟨Nat.le_of_ble_eq_true rfl, Nat.le_of_ble_eq_true rfl⟩ rfl hl.1 rfl (Nat.le_of_ble_eq_true rfl) dX10_shares_80 ⟨Nat.le_of_ble_eq_true rfl, Nat.le_of_ble_eq_true rfl⟩) (fun r_14 hr_14 => ?_)
      obtain ⟨hr_14_lo, hr_14_hi⟩ := hr_14
      have hr_14_lo : 0 ≤ r_14.toInt := hr_14_lo
      have hr_14_hi : r_14.toInt ≤ 999 := hr_14_hi
      refine pu_calll (runV (As := [.int v2, .int r_14]) (rest := [.long z_12]) ⟨hx, hb, hml, hown, hts⟩ (t_X10_forkOf l D cy base τ G_13 a h_a v2 ⟨by omega, by omega⟩ r_14) sV_X10_415 hK (t_recv cf_11 hK hT h_a) ⟨Nat.le_trans hZ hS.1, hT⟩ ⟨Nat.le_of_ble_eq_true rfl, Nat.le_of_ble_eq_true rfl⟩ rfl hl.1 rfl (Nat.le_of_ble_eq_true rfl) dX10_shares_83 ⟨Nat.le_of_ble_eq_true rfl, Nat.le_of_ble_eq_true rfl⟩) (fun r_15 hr_15 => ?_)
      refine lv_lsub hx hb dX10_shares_86 ?_
      refine lv_topl (fun z_16 ez_16 => ?_)
      refine lv_ldc2 (v := 1000000000) hx hb hown (hts _ kl_X10_345) dX10_shares_87 ?_
      refine lv_ldiv hx hb dX10_shares_90 (by decide) ?_
      refine lv_topl (fun z_17 ez_17 => ?_)
      exact ret_l hx hb hr hlocks ⟨⟨hS.1, hS.2.1⟩, G_13, hF, ⟨_, rfl, trivial⟩, hT⟩ hS.2.2 (Nat.le_of_ble_eq_true rfl) (Nat.le_of_ble_eq_true rfl) dX10_shares_91
    · skip
      have er_4 := hr_4_1
      subst er_4
      refine W.eq (g2 := F0 m 19 ls [.int 0]) rfl ?_
      refine lv_if_ne (tgt := 26) hx hb dX10_shares_19 (by decide) (fun c_18 => absurd rfl c_18) (fun _ => ?_)
      refine lv_ldc2 (v := (-1000000000000)) hx hb hown (hts _ kl_X10_381) dX10_shares_22 ?_
      exact ret_l hx hb hr hlocks ⟨⟨hS.1, hS.2.1⟩, G_1, hF, ⟨_, rfl, trivial⟩, hT⟩ hS.2.2 (Nat.le_of_ble_eq_true rfl) (Nat.le_of_ble_eq_true rfl) dX10_shares_25
  · skip
    have er_2 := hr_2_1
    subst er_2
    refine W.eq (g2 := F0 m 11 ls [.int 0]) rfl ?_
    refine lv_if_eq (tgt := 22) hx hb dX10_shares_11 (by decide) (fun _ => ?_) (fun c_19 => absurd (by decide) c_19)
    refine lv_ldc2 (v := (-1000000000000)) hx hb hown (hts _ kl_X10_381) dX10_shares_22 ?_
    exact ret_l hx hb hr hlocks ⟨⟨hS.1, hS.2.1⟩, G_1, hF, ⟨_, rfl, trivial⟩, hT⟩ hS.2.2 (Nat.le_of_ble_eq_true rfl) (Nat.le_of_ble_eq_true rfl) dX10_shares_25
set_option maxHeartbeats 4000000 in
set_option maxRecDepth 100000 in
theorem t_X10_lesser (l : Launch) (D : va_G) (cy : Nat → ClassId) (base : Nat) (τ : Nat → Nat) (G : Gh) (v : Int64) (w : Int64) : MM l yX10_lesser cX10_lesser 4 (some .long) 0 0 0 D cy [.long v, .long w] (PT D cy base τ G) (PuL (fun r => True)) noF := by
  refine MM.of (by decide) (Nat.le_of_ble_eq_true rfl) ?_
  intro p e s m below meth c C hPT ls hl
  obtain ⟨hx, hb, hr, hml, hown, hts, hlocks, hK, hnm⟩ := C
  obtain ⟨hZ, hT⟩ := hPT
  have hS : va_S (RA base) s.heap s.heap [] := va_S.rf
  have hl : lv_has ls 4 [(0, .long v), (2, .long w)] := hl
  refine lv_lload_n hx hb dX10_lesser_0 rfl (lv_at hl 0 rfl) ?_
  refine lv_lload_n hx hb dX10_lesser_1 rfl (lv_at hl 1 rfl) ?_
  refine W.lcmp hx hb dX10_lesser_2 ?_
  refine lv_topi (fun z_1 ez_1 => ?_)
  have tz_1 : (z_1.toInt < 0 ↔ v.toInt < w.toInt) ∧ (0 < z_1.toInt ↔ w.toInt < v.toInt) ∧ -1 ≤ z_1.toInt ∧ z_1.toInt ≤ 1 := cmp_t ez_1
  refine lv_if_ge (tgt := 10) hx hb dX10_lesser_3 (by decide) (fun c_2 => ?_) (fun c_2 => ?_)
  · skip
    have tc_2 : 0 ≤ z_1.toInt := (fa_le _ _).mp c_2
    refine lv_lload_n hx hb dX10_lesser_10 rfl (lv_at hl 1 rfl) ?_
    exact ret_l hx hb hr hlocks ⟨rfl, _, rfl, trivial⟩ (fun _ h => absurd h List.not_mem_nil) (Nat.le_refl _) (Nat.le_refl _) dX10_lesser_11
  · skip
    have tc_2 : ¬ 0 ≤ z_1.toInt := fun h => c_2 ((fa_le _ _).mpr h)
    refine lv_lload_n hx hb dX10_lesser_6 rfl (lv_at hl 0 rfl) ?_
    refine lv_goto (tgt := 11) hx hb dX10_lesser_7 (by decide) ?_
    exact ret_l hx hb hr hlocks ⟨rfl, _, rfl, trivial⟩ (fun _ h => absurd h List.not_mem_nil) (Nat.le_refl _) (Nat.le_refl _) dX10_lesser_11
set_option maxHeartbeats 4000000 in
set_option maxRecDepth 100000 in
theorem t_X10_byPlane (l : Launch) (D : va_G) (cy : Nat → ClassId) (base : Nat) (τ : Nat → Nat) (G : Gh) (a : Nat) (h_a : τ a = 11) (w : Int32) (r_w : 0 ≤ w.toInt ∧ w.toInt ≤ 2) (y : Int32) (z : Int32) : MM l yX10_byPlane cX10_byPlane 5 (some .long) 2 0 0 D cy [.ref a, .int w, .int y, .int z] (PT D cy base τ G) (PuL (fun r => True)) noF := by
  refine MM.of (by decide) (Nat.le_of_ble_eq_true rfl) ?_
  intro p e s m below meth c C hPT ls hl
  obtain ⟨hx, hb, hr, hml, hown, hts, hlocks, hK, hnm⟩ := C
  obtain ⟨hZ, hT⟩ := hPT
  have hS : va_S (RA base) s.heap s.heap [] := va_S.rf
  have hl : lv_has ls 5 [(0, .ref a), (1, .int w), (2, .int y), (3, .int z)] := hl
  refine lv_iload_n hx hb dX10_byPlane_0 rfl (lv_at hl 2 rfl) ?_
  refine lv_iload_n hx hb dX10_byPlane_1 rfl (lv_at hl 3 rfl) ?_
  refine lv_icmp_le (tgt := 14) hx hb dX10_byPlane_2 (by decide) (fun c_1 => ?_) (fun c_1 => ?_)
  · skip
    have tc_1 : y.toInt ≤ z.toInt := (fa_le _ _).mp c_1
    refine lv_aload_n hx hb dX10_byPlane_14 rfl (lv_at hl 0 rfl) ?_
    refine lv_iload_n hx hb dX10_byPlane_15 rfl (lv_at hl 1 rfl) ?_
    refine lv_iload_n hx hb dX10_byPlane_16 rfl (lv_at hl 2 rfl) ?_
    refine lv_iload_n hx hb dX10_byPlane_17 rfl (lv_at hl 3 rfl) ?_
    refine pu_calll (runV (As := [.int w, .int y, .int z]) (rest := []) ⟨hx, hb, hml, hown, hts⟩ (t_X10_outcome l D cy base τ G a h_a w ⟨by omega, by omega⟩ y z) sV_X10_366 hK (t_recv cf_11 hK hT h_a) ⟨Nat.le_trans hZ hS.1, hT⟩ ⟨Nat.le_of_ble_eq_true rfl, Nat.le_of_ble_eq_true rfl⟩ rfl hl.1 rfl (Nat.le_of_ble_eq_true rfl) dX10_byPlane_18 ⟨Nat.le_of_ble_eq_true rfl, Nat.le_of_ble_eq_true rfl⟩) (fun r_2 hr_2 => ?_)
    exact ret_l hx hb hr hlocks ⟨rfl, _, rfl, trivial⟩ (fun _ h => absurd h List.not_mem_nil) (Nat.le_refl _) (Nat.le_refl _) dX10_byPlane_21
  · skip
    have tc_1 : ¬ y.toInt ≤ z.toInt := fun h => c_1 ((fa_le _ _).mpr h)
    have mc_1 : y.toInt ≤ 2147483647 := max_t y
    refine lv_aload_n hx hb dX10_byPlane_5 rfl (lv_at hl 0 rfl) ?_
    refine t_getr cf_11 hx hb hts hown hK hT h_a (k := 24) (P := fun q => τ q = 74) rfl (fun _ h9 => h9) fl_X10_55 (fun _ h9 => h9) dX10_byPlane_6 (fun q_3 eq_3 hq_3 => ?_)
    refine lv_iconst (v := 3) hx hb dX10_byPlane_9 (by decide) ?_
    refine t_iald (n := 30) (i := 3) rfl (by decide) hx hb hK hT hq_3 (hT.len hq_3 (by decide)) ⟨by decide, by decide⟩ dX10_byPlane_10 (fun z_4 ez_4 rz_4 => ?_)
    have ez_4 : z_4 = G.1 q_3 3 := ez_4
    have qz_4 : (3 % 6 = 0 → 0 ≤ z_4.toInt ∧ z_4.toInt ≤ 9) ∧ (3 % 6 = 1 → 0 ≤ z_4.toInt ∧ z_4.toInt ≤ 50) ∧ (3 % 6 = 3 → 0 ≤ z_4.toInt ∧ z_4.toInt ≤ 50) := rz_4
    have rz_4 : 0 ≤ z_4.toInt ∧ z_4.toInt ≤ 50 := by omega
    refine lv_if_ne (tgt := 22) hx hb dX10_byPlane_11 (by decide) (fun c_5 => ?_) (fun c_5 => ?_)
    · skip
      have tc_5 : ¬ z_4.toInt = 0 := fun h => c_5 ((fa_eq _ _).mpr h)
      refine lv_iload_n hx hb dX10_byPlane_22 rfl (lv_at hl 2 rfl) ?_
      refine lv_iload_n hx hb dX10_byPlane_23 rfl (lv_at hl 3 rfl) ?_
      refine lv_isub hx hb dX10_byPlane_24 ?_
      refine lv_topi (fun z_6 ez_6 => ?_)
      refine lv_istore (lv' := [(4, .int z_6), (0, .ref a), (1, .int w), (2, .int y), (3, .int z)]) hx hb dX10_byPlane_25 hl (by decide) rfl (fun ls hl => ?_)
      refine lv_iload hx hb dX10_byPlane_27 (lv_at hl 0 rfl) ?_
      refine lv_aload_n hx hb dX10_byPlane_29 rfl (lv_at hl 1 rfl) ?_
      refine t_getr cf_11 hx hb hts hown hK hT h_a (k := 24) (P := fun q => τ q = 74) rfl (fun _ h9 => h9) fl_X10_55 (fun _ h9 => h9) dX10_byPlane_30 (fun q_7 eq_7 hq_7 => ?_)
      have w_8 : q_3 = q_7 := Option.some.inj (eq_3.symm.trans eq_7)
      subst w_8
      refine lv_iconst (v := 3) hx hb dX10_byPlane_33 (by decide) ?_
      refine t_iald (n := 30) (i := 3) rfl (by decide) hx hb hK hT hq_3 (hT.len hq_3 (by decide)) ⟨by decide, by decide⟩ dX10_byPlane_34 (fun z_9 ez_9 rz_9 => ?_)
      have w_10 : z_4 = z_9 := ez_4.trans ez_9.symm
      subst w_10
      refine lv_idiv hx hb dX10_byPlane_35 (ne0_i (by omega)) ?_
      refine lv_topi (fun z_11 ez_11 => ?_)
      refine lv_i2l hx hb dX10_byPlane_36 rfl ?_
      refine lv_topl (fun z_12 ez_12 => ?_)
      have tz_12 : z_12.toInt = z_11.toInt := by rw [ez_12]; exact wide_t z_11
      have az_12 := min_t z_11
      have bz_12 := max_t z_11
      refine lv_aload_n hx hb dX10_byPlane_37 rfl (lv_at hl 1 rfl) ?_
      refine lv_iload_n hx hb dX10_byPlane_38 rfl (lv_at hl 2 rfl) ?_
      refine pu_calli (runV (As := [.int w]) (rest := [.long z_12]) ⟨hx, hb, hml, hown, hts⟩ (t_X10_harmOf l D cy base τ G a h_a w ⟨by omega, by omega⟩) sV_X10_357 hK (t_recv cf_11 hK hT h_a) ⟨Nat.le_trans hZ hS.1, hT⟩ ⟨Nat.le_of_ble_eq_true rfl, Nat.le_of_ble_eq_true rfl⟩ rfl hl.1 rfl (Nat.le_of_ble_eq_true rfl) dX10_byPlane_39 ⟨Nat.le_of_ble_eq_true rfl, Nat.le_of_ble_eq_true rfl⟩) (fun r_13 hr_13 => ?_)
      refine lv_i2l hx hb dX10_byPlane_42 rfl ?_
      refine lv_topl (fun z_14 ez_14 => ?_)
      have tz_14 : z_14.toInt = r_13.toInt := by rw [ez_14]; exact wide_t r_13
      have az_14 := min_t r_13
      have bz_14 := max_t r_13
      refine lv_aload_n hx hb dX10_byPlane_43 rfl (lv_at hl 1 rfl) ?_
      refine t_getr cf_11 hx hb hts hown hK hT h_a (k := 24) (P := fun q => τ q = 74) rfl (fun _ h9 => h9) fl_X10_55 (fun _ h9 => h9) dX10_byPlane_44 (fun q_15 eq_15 hq_15 => ?_)
      have w_16 : q_3 = q_15 := Option.some.inj (eq_3.symm.trans eq_15)
      subst w_16
      refine lv_iconst (v := 3) hx hb dX10_byPlane_47 (by decide) ?_
      refine t_iald (n := 30) (i := 3) rfl (by decide) hx hb hK hT hq_3 (hT.len hq_3 (by decide)) ⟨by decide, by decide⟩ dX10_byPlane_48 (fun z_17 ez_17 rz_17 => ?_)
      have w_18 : z_4 = z_17 := ez_4.trans ez_17.symm
      subst w_18
      refine lv_i2l hx hb dX10_byPlane_49 rfl ?_
      refine lv_topl (fun z_19 ez_19 => ?_)
      have tz_19 : z_19.toInt = z_4.toInt := by rw [ez_19]; exact wide_t z_4
      refine lv_lmul hx hb dX10_byPlane_50 ?_
      refine lv_topl (fun z_20 ez_20 => ?_)
      refine lv_aload_n hx hb dX10_byPlane_51 rfl (lv_at hl 1 rfl) ?_
      refine t_getr cf_11 hx hb hts hown hK hT h_a (k := 24) (P := fun q => τ q = 74) rfl (fun _ h9 => h9) fl_X10_55 (fun _ h9 => h9) dX10_byPlane_52 (fun q_21 eq_21 hq_21 => ?_)
      have w_22 : q_3 = q_21 := Option.some.inj (eq_3.symm.trans eq_21)
      subst w_22
      refine lv_iconst (v := 4) hx hb dX10_byPlane_55 (by decide) ?_
      refine t_iald (n := 30) (i := 4) rfl (by decide) hx hb hK hT hq_3 (hT.len hq_3 (by decide)) ⟨by decide, by decide⟩ dX10_byPlane_56 (fun z_23 ez_23 rz_23 => ?_)
      have ez_23 : z_23 = G.1 q_3 4 := ez_23
      refine lv_i2l hx hb dX10_byPlane_57 rfl ?_
      refine lv_topl (fun z_24 ez_24 => ?_)
      have tz_24 : z_24.toInt = z_23.toInt := by rw [ez_24]; exact wide_t z_23
      have az_24 := min_t z_23
      have bz_24 := max_t z_23
      refine pu_calll (runS (As := [.long z_20, .long z_24]) (rest := [.long z_12]) ⟨hx, hb, hml, hown, hts⟩ (t_X10_lesser l D cy base τ G z_20 z_24) sS_X10_425 hK ⟨Nat.le_trans hZ hS.1, hT⟩ ⟨Nat.le_of_ble_eq_true rfl, Nat.le_of_ble_eq_true rfl⟩ rfl hl.1 rfl (Nat.le_of_ble_eq_true rfl) dX10_byPlane_58 ⟨Nat.le_of_ble_eq_true rfl, Nat.le_of_ble_eq_true rfl⟩) (fun r_25 hr_25 => ?_)
      refine lv_lmul hx hb dX10_byPlane_61 ?_
      refine lv_topl (fun z_26 ez_26 => ?_)
      refine lv_aload_n hx hb dX10_byPlane_62 rfl (lv_at hl 1 rfl) ?_
      refine lv_iload_n hx hb dX10_byPlane_63 rfl (lv_at hl 2 rfl) ?_
      refine pu_calli (runV (As := [.int w]) (rest := [.long z_26]) ⟨hx, hb, hml, hown, hts⟩ (t_X10_harmOf l D cy base τ G a h_a w ⟨by omega, by omega⟩) sV_X10_357 hK (t_recv cf_11 hK hT h_a) ⟨Nat.le_trans hZ hS.1, hT⟩ ⟨Nat.le_of_ble_eq_true rfl, Nat.le_of_ble_eq_true rfl⟩ rfl hl.1 rfl (Nat.le_of_ble_eq_true rfl) dX10_byPlane_64 ⟨Nat.le_of_ble_eq_true rfl, Nat.le_of_ble_eq_true rfl⟩) (fun r_27 hr_27 => ?_)
      refine lv_i2l hx hb dX10_byPlane_67 rfl ?_
      refine lv_topl (fun z_28 ez_28 => ?_)
      have tz_28 : z_28.toInt = r_27.toInt := by rw [ez_28]; exact wide_t r_27
      have az_28 := min_t r_27
      have bz_28 := max_t r_27
      refine lv_iload hx hb dX10_byPlane_68 (lv_at hl 0 rfl) ?_
      refine lv_aload_n hx hb dX10_byPlane_70 rfl (lv_at hl 1 rfl) ?_
      refine t_getr cf_11 hx hb hts hown hK hT h_a (k := 24) (P := fun q => τ q = 74) rfl (fun _ h9 => h9) fl_X10_55 (fun _ h9 => h9) dX10_byPlane_71 (fun q_29 eq_29 hq_29 => ?_)
      have w_30 : q_3 = q_29 := Option.some.inj (eq_3.symm.trans eq_29)
      subst w_30
      refine lv_iconst (v := 3) hx hb dX10_byPlane_74 (by decide) ?_
      refine t_iald (n := 30) (i := 3) rfl (by decide) hx hb hK hT hq_3 (hT.len hq_3 (by decide)) ⟨by decide, by decide⟩ dX10_byPlane_75 (fun z_31 ez_31 rz_31 => ?_)
      have w_32 : z_4 = z_31 := ez_4.trans ez_31.symm
      subst w_32
      refine lv_irem hx hb dX10_byPlane_76 (ne0_i (by omega)) ?_
      refine lv_topi (fun z_33 ez_33 => ?_)
      refine lv_i2l hx hb dX10_byPlane_77 rfl ?_
      refine lv_topl (fun z_34 ez_34 => ?_)
      have tz_34 : z_34.toInt = z_33.toInt := by rw [ez_34]; exact wide_t z_33
      have az_34 := min_t z_33
      have bz_34 := max_t z_33
      refine lv_lmul hx hb dX10_byPlane_78 ?_
      refine lv_topl (fun z_35 ez_35 => ?_)
      refine lv_aload_n hx hb dX10_byPlane_79 rfl (lv_at hl 1 rfl) ?_
      refine t_getr cf_11 hx hb hts hown hK hT h_a (k := 24) (P := fun q => τ q = 74) rfl (fun _ h9 => h9) fl_X10_55 (fun _ h9 => h9) dX10_byPlane_80 (fun q_36 eq_36 hq_36 => ?_)
      have w_37 : q_3 = q_36 := Option.some.inj (eq_3.symm.trans eq_36)
      subst w_37
      refine lv_iconst (v := 4) hx hb dX10_byPlane_83 (by decide) ?_
      refine t_iald (n := 30) (i := 4) rfl (by decide) hx hb hK hT hq_3 (hT.len hq_3 (by decide)) ⟨by decide, by decide⟩ dX10_byPlane_84 (fun z_38 ez_38 rz_38 => ?_)
      have w_39 : z_23 = z_38 := ez_23.trans ez_38.symm
      subst w_39
      refine lv_i2l hx hb dX10_byPlane_85 rfl ?_
      refine lv_topl (fun z_40 ez_40 => ?_)
      have tz_40 : z_40.toInt = z_23.toInt := by rw [ez_40]; exact wide_t z_23
      have az_40 := min_t z_23
      have bz_40 := max_t z_23
      refine pu_calll (runS (As := [.long z_35, .long z_40]) (rest := [.long z_26]) ⟨hx, hb, hml, hown, hts⟩ (t_X10_lesser l D cy base τ G z_35 z_40) sS_X10_425 hK ⟨Nat.le_trans hZ hS.1, hT⟩ ⟨Nat.le_of_ble_eq_true rfl, Nat.le_of_ble_eq_true rfl⟩ rfl hl.1 rfl (Nat.le_of_ble_eq_true rfl) dX10_byPlane_86 ⟨Nat.le_of_ble_eq_true rfl, Nat.le_of_ble_eq_true rfl⟩) (fun r_41 hr_41 => ?_)
      refine lv_ladd hx hb dX10_byPlane_89 ?_
      refine lv_topl (fun z_42 ez_42 => ?_)
      exact ret_l hx hb hr hlocks ⟨rfl, _, rfl, trivial⟩ (fun _ h => absurd h List.not_mem_nil) (Nat.le_refl _) (Nat.le_refl _) dX10_byPlane_90
    · skip
      have tc_5 : z_4.toInt = 0 := (fa_eq _ _).mp c_5
      refine lv_aload_n hx hb dX10_byPlane_14 rfl (lv_at hl 0 rfl) ?_
      refine lv_iload_n hx hb dX10_byPlane_15 rfl (lv_at hl 1 rfl) ?_
      refine lv_iload_n hx hb dX10_byPlane_16 rfl (lv_at hl 2 rfl) ?_
      refine lv_iload_n hx hb dX10_byPlane_17 rfl (lv_at hl 3 rfl) ?_
      refine pu_calll (runV (As := [.int w, .int y, .int z]) (rest := []) ⟨hx, hb, hml, hown, hts⟩ (t_X10_outcome l D cy base τ G a h_a w ⟨by omega, by omega⟩ y z) sV_X10_366 hK (t_recv cf_11 hK hT h_a) ⟨Nat.le_trans hZ hS.1, hT⟩ ⟨Nat.le_of_ble_eq_true rfl, Nat.le_of_ble_eq_true rfl⟩ rfl hl.1 rfl (Nat.le_of_ble_eq_true rfl) dX10_byPlane_18 ⟨Nat.le_of_ble_eq_true rfl, Nat.le_of_ble_eq_true rfl⟩) (fun r_43 hr_43 => ?_)
      exact ret_l hx hb hr hlocks ⟨rfl, _, rfl, trivial⟩ (fun _ h => absurd h List.not_mem_nil) (Nat.le_refl _) (Nat.le_refl _) dX10_byPlane_21
set_option maxHeartbeats 4000000 in
set_option maxRecDepth 100000 in
theorem t_X10_flownOf (l : Launch) (D : va_G) (cy : Nat → ClassId) (base : Nat) (τ : Nat → Nat) (G : Gh) (a : Nat) (h_a : τ a = 11) (v : Int32) (r_v : 0 ≤ v.toInt ∧ v.toInt ≤ 5) (w : Int32) (r_w : 0 ≤ w.toInt ∧ w.toInt ≤ 2) (z : Int32) : MM l yX10_flownOf cX10_flownOf 7 (some .long) 3 0 0 D cy [.ref a, .int v, .int w, .int z] (PT D cy base τ G) (PuL (fun r => True)) noF := by
  refine MM.of (by decide) (Nat.le_of_ble_eq_true rfl) ?_
  intro p e s m below meth c C hPT ls hl
  obtain ⟨hx, hb, hr, hml, hown, hts, hlocks, hK, hnm⟩ := C
  obtain ⟨hZ, hT⟩ := hPT
  have hS : va_S (RA base) s.heap s.heap [] := va_S.rf
  have hl : lv_has ls 7 [(0, .ref a), (1, .int v), (2, .int w), (3, .int z)] := hl
  refine lv_ldc2 (v := 1000000000000) hx hb hown (hts _ kl_X10_284) dX10_flownOf_0 ?_
  refine lv_aload_n hx hb dX10_flownOf_3 rfl (lv_at hl 0 rfl) ?_
  refine lv_iload_n hx hb dX10_flownOf_4 rfl (lv_at hl 2 rfl) ?_
  refine pu_calli (runV (As := [.int w]) (rest := [.long 1000000000000]) ⟨hx, hb, hml, hown, hts⟩ (t_X10_priceOf l D cy base τ G a h_a w ⟨by omega, by omega⟩) sV_X10_363 hK (t_recv cf_11 hK hT h_a) ⟨Nat.le_trans hZ hS.1, hT⟩ ⟨Nat.le_of_ble_eq_true rfl, Nat.le_of_ble_eq_true rfl⟩ rfl hl.1 rfl (Nat.le_of_ble_eq_true rfl) dX10_flownOf_5 ⟨Nat.le_of_ble_eq_true rfl, Nat.le_of_ble_eq_true rfl⟩) (fun r_1 hr_1 => ?_)
  refine lv_i2l hx hb dX10_flownOf_8 rfl ?_
  refine lv_topl (fun z_2 ez_2 => ?_)
  have tz_2 : z_2.toInt = r_1.toInt := by rw [ez_2]; exact wide_t r_1
  have az_2 := min_t r_1
  have bz_2 := max_t r_1
  refine lv_lmul hx hb dX10_flownOf_9 ?_
  refine lv_topl (fun z_3 ez_3 => ?_)
  refine lv_iload_n hx hb dX10_flownOf_10 rfl (lv_at hl 3 rfl) ?_
  refine lv_i2l hx hb dX10_flownOf_11 rfl ?_
  refine lv_topl (fun z_4 ez_4 => ?_)
  have tz_4 : z_4.toInt = z.toInt := by rw [ez_4]; exact wide_t z
  have az_4 := min_t z
  have bz_4 := max_t z
  refine lv_lmul hx hb dX10_flownOf_12 ?_
  refine lv_topl (fun z_5 ez_5 => ?_)
  refine lv_lstore (lv' := [(4, .long z_5), (0, .ref a), (1, .int v), (2, .int w), (3, .int z)]) hx hb dX10_flownOf_13 hl (by decide) rfl (fun ls hl => ?_)
  refine lv_iconst (v := 0) hx hb dX10_flownOf_15 (by decide) ?_
  refine lv_istore (lv' := [(6, .int 0), (4, .long z_5), (0, .ref a), (1, .int v), (2, .int w), (3, .int z)]) hx hb dX10_flownOf_16 hl (by decide) rfl (fun ls hl => ?_)
  refine W.loop (σ := Int64 × Int32) (fun w6 H locs ls => 0 ≤ w6.2.toInt ∧ w6.2.toInt ≤ 61 ∧ H = s.heap ∧ locs = [] ∧ lv_has ls 7 [(4, .long w6.1), (6, .int w6.2), (0, .ref a), (1, .int v), (2, .int w), (3, .int z)]) (fun w6 => (61 - w6.2.toInt).toNat) ?_ (z_5, (0 : Int32)) _ _ _ ⟨(by show 0 ≤ (0 : Int32).toInt; decide), (by show (0 : Int32).toInt ≤ 61; decide), rfl, rfl, lv_sub hl [1, 0, 2, 3, 4, 5] rfl⟩
  intro w6 H locs ls hI ih6
  obtain ⟨x6_4, x6_6⟩ := w6
  obtain ⟨i6_0, i6_1, rfl, rfl, hl⟩ := hI
  have i6_0 : 0 ≤ x6_6.toInt := i6_0
  have i6_1 : x6_6.toInt ≤ 61 := i6_1
  have hl : lv_has ls 7 [(4, .long x6_4), (6, .int x6_6), (0, .ref a), (1, .int v), (2, .int w), (3, .int z)] := hl
  refine lv_iload hx hb dX10_flownOf_18 (lv_at hl 1 rfl) ?_
  refine lv_aload_n hx hb dX10_flownOf_20 rfl (lv_at hl 2 rfl) ?_
  obtain ⟨q_7, eq_7, hq_7⟩ := (show ∃ q, G.2.2.1 a 17 = some q ∧ τ q = 67 from hT.rgr h_a (by decide) 17)
  obtain ⟨z_8, ez_8⟩ : ∃ y : Int32, y = G.1 q_7 0 := ⟨_, rfl⟩
  have qz_8 : (0 % 4 = 0 → 0 ≤ z_8.toInt ∧ z_8.toInt ≤ 60) := by rw [ez_8]; exact hT.rgi hq_7 (by decide) 0
  have rz_8 : 0 ≤ z_8.toInt ∧ z_8.toInt ≤ 60 := by omega
  refine pu_calli (runV (As := []) (rest := [.int x6_6]) ⟨hx, hb, hml, hown, hts⟩ (t_X10_lastDay l D cy base τ G a h_a q_7 hq_7 eq_7 z_8 ez_8 ⟨by omega, by omega⟩) sV_X10_278 hK (t_recv cf_11 hK hT h_a) ⟨Nat.le_trans hZ hS.1, hT⟩ ⟨Nat.le_of_ble_eq_true rfl, Nat.le_of_ble_eq_true rfl⟩ rfl hl.1 rfl (Nat.le_of_ble_eq_true rfl) dX10_flownOf_21 ⟨Nat.le_of_ble_eq_true rfl, Nat.le_of_ble_eq_true rfl⟩) (fun r_9 hr_9 => ?_)
  have er_9 := hr_9
  have er_9 := er_9.symm
  subst er_9
  refine W.eq (g2 := F0 m 24 ls [.int z_8, .int x6_6]) rfl ?_
  refine lv_icmp_gt (tgt := 60) hx hb dX10_flownOf_24 (by decide) (fun c_10 => ?_) (fun c_10 => ?_)
  · skip
    have tc_10 : z_8.toInt < x6_6.toInt := (fa_lt _ _).mp c_10
    refine lv_lload hx hb dX10_flownOf_60 (lv_at hl 0 rfl) ?_
    exact ret_l hx hb hr hlocks ⟨rfl, _, rfl, trivial⟩ (fun _ h => absurd h List.not_mem_nil) (Nat.le_refl _) (Nat.le_refl _) dX10_flownOf_62
  · skip
    have tc_10 : ¬ z_8.toInt < x6_6.toInt := fun h => c_10 ((fa_lt _ _).mpr h)
    refine lv_lload hx hb dX10_flownOf_27 (lv_at hl 0 rfl) ?_
    refine lv_aload_n hx hb dX10_flownOf_29 rfl (lv_at hl 2 rfl) ?_
    refine t_getr cf_11 hx hb hts hown hK hT h_a (k := 29) (P := fun q => τ q = 79) rfl (fun _ h9 => h9) fl_X10_71 (fun _ h9 => h9) dX10_flownOf_30 (fun q_11 eq_11 hq_11 => ?_)
    refine lv_iload hx hb dX10_flownOf_33 (lv_at hl 1 rfl) ?_
    refine t_lald (n := 61) (i := x6_6) rfl (by decide) hx hb hK hT hq_11 (hT.len hq_11 (by decide)) ⟨by omega, by omega⟩ dX10_flownOf_35 (fun z_12 ez_12 => ?_)
    refine lv_aload_n hx hb dX10_flownOf_36 rfl (lv_at hl 2 rfl) ?_
    refine lv_iload_n hx hb dX10_flownOf_37 rfl (lv_at hl 4 rfl) ?_
    refine lv_aload_n hx hb dX10_flownOf_38 rfl (lv_at hl 2 rfl) ?_
    refine lv_iload_n hx hb dX10_flownOf_39 rfl (lv_at hl 3 rfl) ?_
    refine lv_iload_n hx hb dX10_flownOf_40 rfl (lv_at hl 4 rfl) ?_
    refine lv_iload hx hb dX10_flownOf_41 (lv_at hl 1 rfl) ?_
    refine pu_calli (runV (As := [.int v, .int w, .int x6_6]) (rest := [.int w, .ref a, .long z_12, .long x6_4]) ⟨hx, hb, hml, hown, hts⟩ (t_X10_wantsOf l D cy base τ G a h_a v ⟨by omega, by omega⟩ w ⟨by omega, by omega⟩ x6_6) sV_X10_353 hK (t_recv cf_11 hK hT h_a) ⟨Nat.le_trans hZ hS.1, hT⟩ ⟨Nat.le_of_ble_eq_true rfl, Nat.le_of_ble_eq_true rfl⟩ rfl hl.1 rfl (Nat.le_of_ble_eq_true rfl) dX10_flownOf_43 ⟨Nat.le_of_ble_eq_true rfl, Nat.le_of_ble_eq_true rfl⟩) (fun r_13 hr_13 => ?_)
    refine lv_iload_n hx hb dX10_flownOf_46 rfl (lv_at hl 5 rfl) ?_
    refine pu_calll (runV (As := [.int w, .int r_13, .int z]) (rest := [.long z_12, .long x6_4]) ⟨hx, hb, hml, hown, hts⟩ (t_X10_byPlane l D cy base τ G a h_a w ⟨by omega, by omega⟩ r_13 z) sV_X10_429 hK (t_recv cf_11 hK hT h_a) ⟨Nat.le_trans hZ hS.1, hT⟩ ⟨Nat.le_of_ble_eq_true rfl, Nat.le_of_ble_eq_true rfl⟩ rfl hl.1 rfl (Nat.le_of_ble_eq_true rfl) dX10_flownOf_47 ⟨Nat.le_of_ble_eq_true rfl, Nat.le_of_ble_eq_true rfl⟩) (fun r_14 hr_14 => ?_)
    refine lv_lmul hx hb dX10_flownOf_50 ?_
    refine lv_topl (fun z_15 ez_15 => ?_)
    refine lv_ladd hx hb dX10_flownOf_51 ?_
    refine lv_topl (fun z_16 ez_16 => ?_)
    refine lv_lstore (lv' := [(4, .long z_16), (6, .int x6_6), (0, .ref a), (1, .int v), (2, .int w), (3, .int z)]) hx hb dX10_flownOf_52 hl (by decide) rfl (fun ls hl => ?_)
    obtain ⟨z_17, ez_17⟩ : ∃ y : Int32, y = x6_6 + 1 := ⟨_, rfl⟩
    have tz_17 : z_17.toInt = x6_6.toInt + 1 := add_t ez_17 (show -2147483648 ≤ x6_6.toInt + 1 by omega) (show x6_6.toInt + 1 < 2147483648 by omega)
    refine lv_iinc (v := z_17) (lv' := [(6, .int z_17), (4, .long z_16), (0, .ref a), (1, .int v), (2, .int w), (3, .int z)]) hx hb dX10_flownOf_54 hl (k := 1) rfl (by rw [ez_17]; rfl) (by decide) rfl (fun ls hl => ?_)
    refine lv_goto (tgt := 18) hx hb dX10_flownOf_57 (by decide) ?_
    exact ih6 (z_16, z_17) _ _ _ (by show (61 - z_17.toInt).toNat < (61 - x6_6.toInt).toNat; omega) ⟨(by show 0 ≤ z_17.toInt; omega), (by show z_17.toInt ≤ 61; omega), rfl, rfl, lv_sub hl [1, 0, 2, 3, 4, 5] rfl⟩
set_option maxHeartbeats 4000000 in
set_option maxRecDepth 100000 in
theorem t_X10_flown (l : Launch) (D : va_G) (cy : Nat → ClassId) (base : Nat) (τ : Nat → Nat) (G : Gh) (a : Nat) (h_a : τ a = 11) (v0 : Int32) (v1 : Int32) (v2 : Int32) : MM l yX10_flown cX10_flown 4 (some .long) 4 0 0 D cy [.ref a, .int v0, .int v1, .int v2] (PT D cy base τ G) (QT D cy base τ G [11, 79] (fun v g => ∃ r : Int64, v = some (.long r) ∧ (True))) (RA base) := by
  refine MM.of (by decide) (Nat.le_of_ble_eq_true rfl) ?_
  intro p e s m below meth c C hPT ls hl
  obtain ⟨hx, hb, hr, hml, hown, hts, hlocks, hK, hnm⟩ := C
  obtain ⟨hZ, hT⟩ := hPT
  have hS : va_S (RA base) s.heap s.heap [] := va_S.rf
  have hF : Fr τ [11, 79] G G := Fr.rf
  have hl : lv_has ls 4 [(0, .ref a), (1, .int v0), (2, .int v1), (3, .int v2)] := hl
  refine lv_aload_n hx hb dX10_flown_0 rfl (lv_at hl 0 rfl) ?_
  refine lv_iconst (v := 0) hx hb dX10_flown_1 (by decide) ?_
  refine t_puti (x := 0) cf_11 hx hb hts hown hK hT hS h_a (k := 0) rfl trivial fl_X10_111 (fun _ h9 => h9) rfl rfl rfl dX10_flown_2 (fun H locs G_1 eG_1 hT hS => ?_)
  have hF := hF.wI eG_1 h_a rfl
  refine lv_aload_n hx hb dX10_flown_5 rfl (lv_at hl 0 rfl) ?_
  refine lv_iload_n hx hb dX10_flown_6 rfl (lv_at hl 1 rfl) ?_
  refine lv_iload_n hx hb dX10_flown_7 rfl (lv_at hl 2 rfl) ?_
  refine lv_iload_n hx hb dX10_flown_8 rfl (lv_at hl 3 rfl) ?_
  refine pu_calli (runV (As := [.int v0, .int v1, .int v2]) (rest := []) ⟨hx, hb, hml, hown, hts⟩ (t_X10_isStore l D cy base τ G_1 a h_a v0 v1 v2) sV_X10_375 hK (t_recv cf_11 hK hT h_a) ⟨Nat.le_trans hZ hS.1, hT⟩ ⟨Nat.le_of_ble_eq_true rfl, Nat.le_of_ble_eq_true rfl⟩ rfl hl.1 rfl (Nat.le_of_ble_eq_true rfl) dX10_flown_9 ⟨Nat.le_of_ble_eq_true rfl, Nat.le_of_ble_eq_true rfl⟩) (fun r_2 hr_2 => ?_)
  have hr_2_c := hr_2
  rcases hr_2_c with hr_2_0 | hr_2_1
  · skip
    obtain ⟨er_2, hr_2_0_f0, hr_2_0_f1, hr_2_0_f2, hr_2_0_f3, hr_2_0_f4, hr_2_0_f5⟩ := hr_2_0
    have hr_2_0_f0 : 0 ≤ v0.toInt := hr_2_0_f0
    have hr_2_0_f1 : v0.toInt ≤ 5 := hr_2_0_f1
    have hr_2_0_f2 : 0 ≤ v1.toInt := hr_2_0_f2
    have hr_2_0_f3 : v1.toInt ≤ 2 := hr_2_0_f3
    have hr_2_0_f4 : 0 ≤ v2.toInt := hr_2_0_f4
    have hr_2_0_f5 : v2.toInt ≤ 999 := hr_2_0_f5
    subst er_2
    refine W.eq (g2 := F0 m 12 ls [.int 1]) rfl ?_
    refine lv_if_ne (tgt := 19) hx hb dX10_flown_12 (by decide) (fun _ => ?_) (fun c_3 => absurd c_3 (by decide))
    refine lv_aload_n hx hb dX10_flown_19 rfl (lv_at hl 0 rfl) ?_
    refine lv_iload_n hx hb dX10_flown_20 rfl (lv_at hl 1 rfl) ?_
    refine t_callv (runV (As := [.int v0]) (rest := []) ⟨hx, hb, hml, hown, hts⟩ (t_X10_splits l D cy base τ G_1 a h_a v0 ⟨by omega, by omega⟩) sV_X10_302 hK (t_recv cf_11 hK hT h_a) ⟨Nat.le_trans hZ hS.1, hT⟩ ⟨Nat.le_of_ble_eq_true rfl, Nat.le_of_ble_eq_true rfl⟩ rfl hl.1 rfl (Nat.le_of_ble_eq_true rfl) dX10_flown_21 ⟨Nat.le_of_ble_eq_true rfl, Nat.le_of_ble_eq_true rfl⟩) hS (fun G_4 H locs hF_4 hr_4 hT hS => ?_)
    have hF := hF.tr hF_4 rfl
    refine lv_aload_n hx hb dX10_flown_24 rfl (lv_at hl 0 rfl) ?_
    refine lv_iload_n hx hb dX10_flown_25 rfl (lv_at hl 1 rfl) ?_
    refine lv_iload_n hx hb dX10_flown_26 rfl (lv_at hl 2 rfl) ?_
    refine lv_iload_n hx hb dX10_flown_27 rfl (lv_at hl 3 rfl) ?_
    refine pu_calll (runV (As := [.int v0, .int v1, .int v2]) (rest := []) ⟨hx, hb, hml, hown, hts⟩ (t_X10_flownOf l D cy base τ G_4 a h_a v0 ⟨by omega, by omega⟩ v1 ⟨by omega, by omega⟩ v2) sV_X10_432 hK (t_recv cf_11 hK hT h_a) ⟨Nat.le_trans hZ hS.1, hT⟩ ⟨Nat.le_of_ble_eq_true rfl, Nat.le_of_ble_eq_true rfl⟩ rfl hl.1 rfl (Nat.le_of_ble_eq_true rfl) dX10_flown_28 ⟨Nat.le_of_ble_eq_true rfl, Nat.le_of_ble_eq_true rfl⟩) (fun r_5 hr_5 => ?_)
    refine lv_ldc2 (v := 1000000000) hx hb hown (hts _ kl_X10_345) dX10_flown_31 ?_
    refine lv_ldiv hx hb dX10_flown_34 (by decide) ?_
    refine lv_topl (fun z_6 ez_6 => ?_)
    exact ret_l hx hb hr hlocks ⟨⟨hS.1, hS.2.1⟩, G_4, hF, ⟨_, rfl, trivial⟩, hT⟩ hS.2.2 (Nat.le_of_ble_eq_true rfl) (Nat.le_of_ble_eq_true rfl) dX10_flown_35
  · skip
    have er_2 := hr_2_1
    subst er_2
    refine W.eq (g2 := F0 m 12 ls [.int 0]) rfl ?_
    refine lv_if_ne (tgt := 19) hx hb dX10_flown_12 (by decide) (fun c_7 => absurd rfl c_7) (fun _ => ?_)
    refine lv_ldc2 (v := (-2)) hx hb hown (hts _ kl_X10_300) dX10_flown_15 ?_
    exact ret_l hx hb hr hlocks ⟨⟨hS.1, hS.2.1⟩, G_1, hF, ⟨_, rfl, trivial⟩, hT⟩ hS.2.2 (Nat.le_of_ble_eq_true rfl) (Nat.le_of_ble_eq_true rfl) dX10_flown_18
set_option maxHeartbeats 4000000 in
set_option maxRecDepth 100000 in
theorem t_X10_plane (l : Launch) (D : va_G) (cy : Nat → ClassId) (base : Nat) (τ : Nat → Nat) (G : Gh) (a : Nat) (h_a : τ a = 11) (v0 : Int32) (v1 : Int32) : MM l yX10_plane cX10_plane 9 (some .int) 4 0 0 D cy [.ref a, .int v0, .int v1] (PT D cy base τ G) (QT D cy base τ G [11, 79] (fun v g => ∃ r : Int32, v = some (.int r) ∧ (True))) (RA base) := by
  refine MM.of (by decide) (Nat.le_of_ble_eq_true rfl) ?_
  intro p e s m below meth c C hPT ls hl
  obtain ⟨hx, hb, hr, hml, hown, hts, hlocks, hK, hnm⟩ := C
  obtain ⟨hZ, hT⟩ := hPT
  have hS : va_S (RA base) s.heap s.heap [] := va_S.rf
  have hF : Fr τ [11, 79] G G := Fr.rf
  have hl : lv_has ls 9 [(0, .ref a), (1, .int v0), (2, .int v1)] := hl
  refine lv_aload_n hx hb dX10_plane_0 rfl (lv_at hl 0 rfl) ?_
  refine lv_iconst (v := 0) hx hb dX10_plane_1 (by decide) ?_
  refine t_puti (x := 0) cf_11 hx hb hts hown hK hT hS h_a (k := 0) rfl trivial fl_X10_111 (fun _ h9 => h9) rfl rfl rfl dX10_plane_2 (fun H locs G_1 eG_1 hT hS => ?_)
  have hF := hF.wI eG_1 h_a rfl
  refine lv_aload_n hx hb dX10_plane_5 rfl (lv_at hl 0 rfl) ?_
  refine lv_iload_n hx hb dX10_plane_6 rfl (lv_at hl 1 rfl) ?_
  refine lv_iload_n hx hb dX10_plane_7 rfl (lv_at hl 2 rfl) ?_
  refine lv_iconst (v := 0) hx hb dX10_plane_8 (by decide) ?_
  refine pu_calli (runV (As := [.int v0, .int v1, .int 0]) (rest := []) ⟨hx, hb, hml, hown, hts⟩ (t_X10_isStore l D cy base τ G_1 a h_a v0 v1 0) sV_X10_375 hK (t_recv cf_11 hK hT h_a) ⟨Nat.le_trans hZ hS.1, hT⟩ ⟨Nat.le_of_ble_eq_true rfl, Nat.le_of_ble_eq_true rfl⟩ rfl hl.1 rfl (Nat.le_of_ble_eq_true rfl) dX10_plane_9 ⟨Nat.le_of_ble_eq_true rfl, Nat.le_of_ble_eq_true rfl⟩) (fun r_2 hr_2 => ?_)
  have hr_2_c := hr_2
  rcases hr_2_c with hr_2_0 | hr_2_1
  · skip
    obtain ⟨er_2, hr_2_0_f0, hr_2_0_f1, hr_2_0_f2, hr_2_0_f3, hr_2_0_f4, hr_2_0_f5⟩ := hr_2_0
    have hr_2_0_f0 : 0 ≤ v0.toInt := hr_2_0_f0
    have hr_2_0_f1 : v0.toInt ≤ 5 := hr_2_0_f1
    have hr_2_0_f2 : 0 ≤ v1.toInt := hr_2_0_f2
    have hr_2_0_f3 : v1.toInt ≤ 2 := hr_2_0_f3
    subst er_2
    refine W.eq (g2 := F0 m 12 ls [.int 1]) rfl ?_
    refine lv_if_ne (tgt := 18) hx hb dX10_plane_12 (by decide) (fun _ => ?_) (fun c_3 => absurd c_3 (by decide))
    refine lv_aload_n hx hb dX10_plane_18 rfl (lv_at hl 0 rfl) ?_
    refine lv_iload_n hx hb dX10_plane_19 rfl (lv_at hl 1 rfl) ?_
    refine t_callv (runV (As := [.int v0]) (rest := []) ⟨hx, hb, hml, hown, hts⟩ (t_X10_splits l D cy base τ G_1 a h_a v0 ⟨by omega, by omega⟩) sV_X10_302 hK (t_recv cf_11 hK hT h_a) ⟨Nat.le_trans hZ hS.1, hT⟩ ⟨Nat.le_of_ble_eq_true rfl, Nat.le_of_ble_eq_true rfl⟩ rfl hl.1 rfl (Nat.le_of_ble_eq_true rfl) dX10_plane_20 ⟨Nat.le_of_ble_eq_true rfl, Nat.le_of_ble_eq_true rfl⟩) hS (fun G_4 H locs hF_4 hr_4 hT hS => ?_)
    have hF := hF.tr hF_4 rfl
    refine lv_iconst (v := 0) hx hb dX10_plane_23 (by decide) ?_
    refine lv_istore_n (lv' := [(3, .int 0), (0, .ref a), (1, .int v0), (2, .int v1)]) hx hb dX10_plane_24 rfl hl (by decide) rfl (fun ls hl => ?_)
    refine lv_aload_n hx hb dX10_plane_25 rfl (lv_at hl 1 rfl) ?_
    refine lv_iload_n hx hb dX10_plane_26 rfl (lv_at hl 2 rfl) ?_
    refine lv_iload_n hx hb dX10_plane_27 rfl (lv_at hl 3 rfl) ?_
    refine lv_iconst (v := 0) hx hb dX10_plane_28 (by decide) ?_
    refine pu_calll (runV (As := [.int v0, .int v1, .int 0]) (rest := []) ⟨hx, hb, hml, hown, hts⟩ (t_X10_flownOf l D cy base τ G_4 a h_a v0 ⟨by omega, by omega⟩ v1 ⟨by omega, by omega⟩ 0) sV_X10_432 hK (t_recv cf_11 hK hT h_a) ⟨Nat.le_trans hZ hS.1, hT⟩ ⟨Nat.le_of_ble_eq_true rfl, Nat.le_of_ble_eq_true rfl⟩ rfl hl.1 rfl (Nat.le_of_ble_eq_true rfl) dX10_plane_29 ⟨Nat.le_of_ble_eq_true rfl, Nat.le_of_ble_eq_true rfl⟩) (fun r_5 hr_5 => ?_)
    refine lv_lstore (lv' := [(4, .long r_5), (3, .int 0), (0, .ref a), (1, .int v0), (2, .int v1)]) hx hb dX10_plane_32 hl (by decide) rfl (fun ls hl => ?_)
    refine lv_iconst (v := 1) hx hb dX10_plane_34 (by decide) ?_
    refine lv_istore (lv' := [(6, .int 1), (4, .long r_5), (3, .int 0), (0, .ref a), (1, .int v0), (2, .int v1)]) hx hb dX10_plane_35 hl (by decide) rfl (fun ls hl => ?_)
    refine W.loop (σ := Int32 × Int64 × Int32 × Gh) (fun w6 H locs ls => 0 ≤ w6.2.2.1.toInt ∧ w6.2.2.1.toInt ≤ 1000 ∧ Fr τ [11, 79] G w6.2.2.2 ∧ TY D cy base τ w6.2.2.2 H ∧ va_S (RA base) s.heap H locs ∧ lv_has ls 9 [(3, .int w6.1), (4, .long w6.2.1), (6, .int w6.2.2.1), (0, .ref a), (1, .int v0), (2, .int v1)]) (fun w6 => (1000 - w6.2.2.1.toInt).toNat) ?_ ((0 : Int32), r_5, (1 : Int32), G_4) _ _ _ ⟨(by show 0 ≤ (1 : Int32).toInt; decide), (by show (1 : Int32).toInt ≤ 1000; decide), hF, hT, hS, lv_sub hl [2, 1, 0, 3, 4, 5] rfl⟩
    intro w6 H locs ls hI ih6
    obtain ⟨x6_3, x6_4, x6_6, G_6⟩ := w6
    obtain ⟨i6_0, i6_1, hF, hT, hS, hl⟩ := hI
    have i6_0 : 0 ≤ x6_6.toInt := i6_0
    have i6_1 : x6_6.toInt ≤ 1000 := i6_1
    have hF : Fr τ [11, 79] G G_6 := hF
    have hT : TY D cy base τ G_6 H := hT
    have hS : va_S (RA base) s.heap H locs := hS
    have hl : lv_has ls 9 [(3, .int x6_3), (4, .long x6_4), (6, .int x6_6), (0, .ref a), (1, .int v0), (2, .int v1)] := hl
    refine lv_iload hx hb dX10_plane_37 (lv_at hl 2 rfl) ?_
    refine lv_sipush (v := 999) hx hb dX10_plane_39 (by decide) ?_
    refine lv_icmp_gt (tgt := 79) hx hb dX10_plane_42 (by decide) (fun c_7 => ?_) (fun c_7 => ?_)
    · skip
      have tc_7 : 999 < x6_6.toInt := (fa_lt _ _).mp c_7
      refine lv_iload_n hx hb dX10_plane_79 rfl (lv_at hl 0 rfl) ?_
      exact ret_i hx hb hr hlocks ⟨⟨hS.1, hS.2.1⟩, G_6, hF, ⟨_, rfl, trivial⟩, hT⟩ hS.2.2 (Nat.le_of_ble_eq_true rfl) (Nat.le_of_ble_eq_true rfl) dX10_plane_80
    · skip
      have tc_7 : ¬ 999 < x6_6.toInt := fun h => c_7 ((fa_lt _ _).mpr h)
      refine lv_aload_n hx hb dX10_plane_45 rfl (lv_at hl 3 rfl) ?_
      refine lv_iload_n hx hb dX10_plane_46 rfl (lv_at hl 4 rfl) ?_
      refine lv_iload_n hx hb dX10_plane_47 rfl (lv_at hl 5 rfl) ?_
      refine lv_iload hx hb dX10_plane_48 (lv_at hl 2 rfl) ?_
      refine pu_calll (runV (As := [.int v0, .int v1, .int x6_6]) (rest := []) ⟨hx, hb, hml, hown, hts⟩ (t_X10_flownOf l D cy base τ G_6 a h_a v0 ⟨by omega, by omega⟩ v1 ⟨by omega, by omega⟩ x6_6) sV_X10_432 hK (t_recv cf_11 hK hT h_a) ⟨Nat.le_trans hZ hS.1, hT⟩ ⟨Nat.le_of_ble_eq_true rfl, Nat.le_of_ble_eq_true rfl⟩ rfl hl.1 rfl (Nat.le_of_ble_eq_true rfl) dX10_plane_50 ⟨Nat.le_of_ble_eq_true rfl, Nat.le_of_ble_eq_true rfl⟩) (fun r_8 hr_8 => ?_)
      refine lv_lstore (lv' := [(7, .long r_8), (3, .int x6_3), (4, .long x6_4), (6, .int x6_6), (0, .ref a), (1, .int v0), (2, .int v1)]) hx hb dX10_plane_53 hl (by decide) rfl (fun ls hl => ?_)
      refine lv_lload hx hb dX10_plane_55 (lv_at hl 0 rfl) ?_
      refine lv_lload hx hb dX10_plane_57 (lv_at hl 2 rfl) ?_
      refine W.lcmp hx hb dX10_plane_59 ?_
      refine lv_topi (fun z_9 ez_9 => ?_)
      have tz_9 : (z_9.toInt < 0 ↔ r_8.toInt < x6_4.toInt) ∧ (0 < z_9.toInt ↔ x6_4.toInt < r_8.toInt) ∧ -1 ≤ z_9.toInt ∧ z_9.toInt ≤ 1 := cmp_t ez_9
      refine lv_if_lt (tgt := 66) hx hb dX10_plane_60 (by decide) (fun c_10 => ?_) (fun c_10 => ?_)
      · skip
        have tc_10 : z_9.toInt < 0 := (fa_lt _ _).mp c_10
        refine lv_iload hx hb dX10_plane_66 (lv_at hl 3 rfl) ?_
        refine lv_istore_n (lv' := [(3, .int x6_6), (7, .long r_8), (4, .long x6_4), (6, .int x6_6), (0, .ref a), (1, .int v0), (2, .int v1)]) hx hb dX10_plane_68 rfl hl (by decide) rfl (fun ls hl => ?_)
        refine lv_lload hx hb dX10_plane_69 (lv_at hl 1 rfl) ?_
        refine lv_lstore (lv' := [(4, .long r_8), (3, .int x6_6), (7, .long r_8), (6, .int x6_6), (0, .ref a), (1, .int v0), (2, .int v1)]) hx hb dX10_plane_71 hl (by decide) rfl (fun ls hl => ?_)
        obtain ⟨z_11, ez_11⟩ : ∃ y : Int32, y = x6_6 + 1 := ⟨_, rfl⟩
        have tz_11 : z_11.toInt = x6_6.toInt + 1 := add_t ez_11 (show -2147483648 ≤ x6_6.toInt + 1 by omega) (show x6_6.toInt + 1 < 2147483648 by omega)
        refine lv_iinc (v := z_11) (lv' := [(6, .int z_11), (4, .long r_8), (3, .int x6_6), (7, .long r_8), (0, .ref a), (1, .int v0), (2, .int v1)]) hx hb dX10_plane_73 hl (k := 3) rfl (by rw [ez_11]; rfl) (by decide) rfl (fun ls hl => ?_)
        refine lv_goto (tgt := 37) hx hb dX10_plane_76 (by decide) ?_
        exact ih6 (x6_6, r_8, z_11, G_6) _ _ _ (by show (1000 - z_11.toInt).toNat < (1000 - x6_6.toInt).toNat; omega) ⟨(by show 0 ≤ z_11.toInt; omega), (by show z_11.toInt ≤ 1000; omega), hF, hT, hS, lv_sub hl [2, 1, 0, 4, 5, 6] rfl⟩
      · skip
        have tc_10 : ¬ z_9.toInt < 0 := fun h => c_10 ((fa_lt _ _).mpr h)
        refine lv_goto (tgt := 73) hx hb dX10_plane_63 (by decide) ?_
        obtain ⟨z_12, ez_12⟩ : ∃ y : Int32, y = x6_6 + 1 := ⟨_, rfl⟩
        have tz_12 : z_12.toInt = x6_6.toInt + 1 := add_t ez_12 (show -2147483648 ≤ x6_6.toInt + 1 by omega) (show x6_6.toInt + 1 < 2147483648 by omega)
        refine lv_iinc (v := z_12) (lv' := [(6, .int z_12), (7, .long r_8), (3, .int x6_3), (4, .long x6_4), (0, .ref a), (1, .int v0), (2, .int v1)]) hx hb dX10_plane_73 hl (k := 3) rfl (by rw [ez_12]; rfl) (by decide) rfl (fun ls hl => ?_)
        refine lv_goto (tgt := 37) hx hb dX10_plane_76 (by decide) ?_
        exact ih6 (x6_3, x6_4, z_12, G_6) _ _ _ (by show (1000 - z_12.toInt).toNat < (1000 - x6_6.toInt).toNat; omega) ⟨(by show 0 ≤ z_12.toInt; omega), (by show z_12.toInt ≤ 1000; omega), hF, hT, hS, lv_sub hl [2, 3, 0, 4, 5, 6] rfl⟩
  · skip
    have er_2 := hr_2_1
    subst er_2
    refine W.eq (g2 := F0 m 12 ls [.int 0]) rfl ?_
    refine lv_if_ne (tgt := 18) hx hb dX10_plane_12 (by decide) (fun c_13 => absurd rfl c_13) (fun _ => ?_)
    refine lv_bipush (v := (-2)) hx hb dX10_plane_15 (by decide) ?_
    exact ret_i hx hb hr hlocks ⟨⟨hS.1, hS.2.1⟩, G_1, hF, ⟨_, rfl, trivial⟩, hT⟩ hS.2.2 (Nat.le_of_ble_eq_true rfl) (Nat.le_of_ble_eq_true rfl) dX10_plane_17
set_option maxHeartbeats 4000000 in
set_option maxRecDepth 100000 in
theorem t_X10_edge (l : Launch) (D : va_G) (cy : Nat → ClassId) (base : Nat) (τ : Nat → Nat) (G : Gh) (a : Nat) (h_a : τ a = 11) (v0 : Int32) : MM l yX10_edge cX10_edge 3 (some .int) 2 0 0 D cy [.ref a, .int v0] (PT D cy base τ G) (QT D cy base τ G [11] (fun v g => ∃ r : Int32, v = some (.int r) ∧ (True))) (RA base) := by
  refine MM.of (by decide) (Nat.le_of_ble_eq_true rfl) ?_
  intro p e s m below meth c C hPT ls hl
  obtain ⟨hx, hb, hr, hml, hown, hts, hlocks, hK, hnm⟩ := C
  obtain ⟨hZ, hT⟩ := hPT
  have hS : va_S (RA base) s.heap s.heap [] := va_S.rf
  have hF : Fr τ [11] G G := Fr.rf
  have hl : lv_has ls 3 [(0, .ref a), (1, .int v0)] := hl
  refine lv_aload_n hx hb dX10_edge_0 rfl (lv_at hl 0 rfl) ?_
  refine lv_iconst (v := 0) hx hb dX10_edge_1 (by decide) ?_
  refine t_puti (x := 0) cf_11 hx hb hts hown hK hT hS h_a (k := 0) rfl trivial fl_X10_111 (fun _ h9 => h9) rfl rfl rfl dX10_edge_2 (fun H locs G_1 eG_1 hT hS => ?_)
  have hF := hF.wI eG_1 h_a rfl
  refine lv_aload_n hx hb dX10_edge_5 rfl (lv_at hl 0 rfl) ?_
  refine lv_iload_n hx hb dX10_edge_6 rfl (lv_at hl 1 rfl) ?_
  refine pu_calli (runV (As := [.int v0]) (rest := []) ⟨hx, hb, hml, hown, hts⟩ (t_X10_isThing l D cy base τ G_1 a h_a v0) sV_X10_350 hK (t_recv cf_11 hK hT h_a) ⟨Nat.le_trans hZ hS.1, hT⟩ ⟨Nat.le_of_ble_eq_true rfl, Nat.le_of_ble_eq_true rfl⟩ rfl hl.1 rfl (Nat.le_of_ble_eq_true rfl) dX10_edge_7 ⟨Nat.le_of_ble_eq_true rfl, Nat.le_of_ble_eq_true rfl⟩) (fun r_2 hr_2 => ?_)
  have hr_2_c := hr_2
  rcases hr_2_c with hr_2_0 | hr_2_1
  · skip
    obtain ⟨er_2, hr_2_0_f0, hr_2_0_f1⟩ := hr_2_0
    have hr_2_0_f0 : 0 ≤ v0.toInt := hr_2_0_f0
    have hr_2_0_f1 : v0.toInt ≤ 2 := hr_2_0_f1
    subst er_2
    refine W.eq (g2 := F0 m 10 ls [.int 1]) rfl ?_
    refine lv_if_ne (tgt := 16) hx hb dX10_edge_10 (by decide) (fun _ => ?_) (fun c_3 => absurd c_3 (by decide))
    refine lv_iconst (v := 1) hx hb dX10_edge_16 (by decide) ?_
    refine lv_istore_n (lv' := [(2, .int 1), (0, .ref a), (1, .int v0)]) hx hb dX10_edge_17 rfl hl (by decide) rfl (fun ls hl => ?_)
    refine W.loop (σ := Int32 × Gh) (fun w4 H locs ls => 1 ≤ w4.1.toInt ∧ w4.1.toInt ≤ 51 ∧ Fr τ [11] G w4.2 ∧ TY D cy base τ w4.2 H ∧ va_S (RA base) s.heap H locs ∧ lv_has ls 3 [(2, .int w4.1), (0, .ref a), (1, .int v0)]) (fun w4 => (51 - w4.1.toInt).toNat) ?_ ((1 : Int32), G_1) _ _ _ ⟨(by show 1 ≤ (1 : Int32).toInt; decide), (by show (1 : Int32).toInt ≤ 51; decide), hF, hT, hS, lv_sub hl [0, 1, 2] rfl⟩
    intro w4 H locs ls hI ih4
    obtain ⟨x4_2, G_4⟩ := w4
    obtain ⟨i4_0, i4_1, hF, hT, hS, hl⟩ := hI
    have i4_0 : 1 ≤ x4_2.toInt := i4_0
    have i4_1 : x4_2.toInt ≤ 51 := i4_1
    have hF : Fr τ [11] G G_4 := hF
    have hT : TY D cy base τ G_4 H := hT
    have hS : va_S (RA base) s.heap H locs := hS
    have hl : lv_has ls 3 [(2, .int x4_2), (0, .ref a), (1, .int v0)] := hl
    refine lv_iload_n hx hb dX10_edge_18 rfl (lv_at hl 0 rfl) ?_
    refine lv_aload_n hx hb dX10_edge_19 rfl (lv_at hl 1 rfl) ?_
    refine t_getr cf_11 hx hb hts hown hK hT h_a (k := 24) (P := fun q => τ q = 74) rfl (fun _ h9 => h9) fl_X10_55 (fun _ h9 => h9) dX10_edge_20 (fun q_5 eq_5 hq_5 => ?_)
    have eq_5 := (hF.r h_a (by decide) rfl _).symm.trans eq_5
    refine lv_iconst (v := 3) hx hb dX10_edge_23 (by decide) ?_
    refine t_iald (n := 30) (i := 3) rfl (by decide) hx hb hK hT hq_5 (hT.len hq_5 (by decide)) ⟨by decide, by decide⟩ dX10_edge_24 (fun z_6 ez_6 rz_6 => ?_)
    have ez_6 : z_6 = G_4.1 q_5 3 := ez_6
    have ez_6 : z_6 = G.1 q_5 3 := ez_6.trans (hF.i hq_5 (by decide) rfl _)
    have qz_6 : (3 % 6 = 0 → 0 ≤ z_6.toInt ∧ z_6.toInt ≤ 9) ∧ (3 % 6 = 1 → 0 ≤ z_6.toInt ∧ z_6.toInt ≤ 50) ∧ (3 % 6 = 3 → 0 ≤ z_6.toInt ∧ z_6.toInt ≤ 50) := rz_6
    have rz_6 : 0 ≤ z_6.toInt ∧ z_6.toInt ≤ 50 := by omega
    refine lv_icmp_gt (tgt := 52) hx hb dX10_edge_25 (by decide) (fun c_7 => ?_) (fun c_7 => ?_)
    · skip
      have tc_7 : z_6.toInt < x4_2.toInt := (fa_lt _ _).mp c_7
      refine lv_iconst (v := (-1)) hx hb dX10_edge_52 (by decide) ?_
      exact ret_i hx hb hr hlocks ⟨⟨hS.1, hS.2.1⟩, G_4, hF, ⟨_, rfl, trivial⟩, hT⟩ hS.2.2 (Nat.le_of_ble_eq_true rfl) (Nat.le_of_ble_eq_true rfl) dX10_edge_53
    · skip
      have tc_7 : ¬ z_6.toInt < x4_2.toInt := fun h => c_7 ((fa_lt _ _).mpr h)
      refine lv_iload_n hx hb dX10_edge_28 rfl (lv_at hl 0 rfl) ?_
      refine lv_aload_n hx hb dX10_edge_29 rfl (lv_at hl 1 rfl) ?_
      refine lv_iload_n hx hb dX10_edge_30 rfl (lv_at hl 2 rfl) ?_
      refine pu_calli (runV (As := [.int v0]) (rest := [.int x4_2]) ⟨hx, hb, hml, hown, hts⟩ (t_X10_harmOf l D cy base τ G_4 a h_a v0 ⟨by omega, by omega⟩) sV_X10_357 hK (t_recv cf_11 hK hT h_a) ⟨Nat.le_trans hZ hS.1, hT⟩ ⟨Nat.le_of_ble_eq_true rfl, Nat.le_of_ble_eq_true rfl⟩ rfl hl.1 rfl (Nat.le_of_ble_eq_true rfl) dX10_edge_31 ⟨Nat.le_of_ble_eq_true rfl, Nat.le_of_ble_eq_true rfl⟩) (fun r_8 hr_8 => ?_)
      refine lv_imul hx hb dX10_edge_34 ?_
      refine lv_topi (fun z_9 ez_9 => ?_)
      refine lv_aload_n hx hb dX10_edge_35 rfl (lv_at hl 1 rfl) ?_
      refine t_getr cf_11 hx hb hts hown hK hT h_a (k := 24) (P := fun q => τ q = 74) rfl (fun _ h9 => h9) fl_X10_55 (fun _ h9 => h9) dX10_edge_36 (fun q_10 eq_10 hq_10 => ?_)
      have w_11 : q_5 = q_10 := Option.some.inj (eq_5.symm.trans ((hF.r h_a (by decide) rfl _).symm.trans eq_10))
      subst w_11
      refine lv_iconst (v := 4) hx hb dX10_edge_39 (by decide) ?_
      refine t_iald (n := 30) (i := 4) rfl (by decide) hx hb hK hT hq_5 (hT.len hq_5 (by decide)) ⟨by decide, by decide⟩ dX10_edge_40 (fun z_12 ez_12 rz_12 => ?_)
      have ez_12 : z_12 = G_4.1 q_5 4 := ez_12
      have ez_12 : z_12 = G.1 q_5 4 := ez_12.trans (hF.i hq_5 (by decide) rfl _)
      refine lv_icmp_le (tgt := 46) hx hb dX10_edge_41 (by decide) (fun c_13 => ?_) (fun c_13 => ?_)
      · skip
        have tc_13 : z_9.toInt ≤ z_12.toInt := (fa_le _ _).mp c_13
        obtain ⟨z_14, ez_14⟩ : ∃ y : Int32, y = x4_2 + 1 := ⟨_, rfl⟩
        have tz_14 : z_14.toInt = x4_2.toInt + 1 := add_t ez_14 (show -2147483648 ≤ x4_2.toInt + 1 by omega) (show x4_2.toInt + 1 < 2147483648 by omega)
        refine lv_iinc (v := z_14) (lv' := [(2, .int z_14), (0, .ref a), (1, .int v0)]) hx hb dX10_edge_46 hl (k := 0) rfl (by rw [ez_14]; rfl) (by decide) rfl (fun ls hl => ?_)
        refine lv_goto (tgt := 18) hx hb dX10_edge_49 (by decide) ?_
        exact ih4 (z_14, G_4) _ _ _ (by show (51 - z_14.toInt).toNat < (51 - x4_2.toInt).toNat; omega) ⟨(by show 1 ≤ z_14.toInt; omega), (by show z_14.toInt ≤ 51; omega), hF, hT, hS, lv_sub hl [0, 1, 2] rfl⟩
      · skip
        have tc_13 : ¬ z_9.toInt ≤ z_12.toInt := fun h => c_13 ((fa_le _ _).mpr h)
        have mc_13 : z_9.toInt ≤ 2147483647 := max_t z_9
        refine lv_iload_n hx hb dX10_edge_44 rfl (lv_at hl 0 rfl) ?_
        exact ret_i hx hb hr hlocks ⟨⟨hS.1, hS.2.1⟩, G_4, hF, ⟨_, rfl, trivial⟩, hT⟩ hS.2.2 (Nat.le_of_ble_eq_true rfl) (Nat.le_of_ble_eq_true rfl) dX10_edge_45
  · skip
    have er_2 := hr_2_1
    subst er_2
    refine W.eq (g2 := F0 m 10 ls [.int 0]) rfl ?_
    refine lv_if_ne (tgt := 16) hx hb dX10_edge_10 (by decide) (fun c_15 => absurd rfl c_15) (fun _ => ?_)
    refine lv_bipush (v := (-2)) hx hb dX10_edge_13 (by decide) ?_
    exact ret_i hx hb hr hlocks ⟨⟨hS.1, hS.2.1⟩, G_1, hF, ⟨_, rfl, trivial⟩, hT⟩ hS.2.2 (Nat.le_of_ble_eq_true rfl) (Nat.le_of_ble_eq_true rfl) dX10_edge_15
set_option maxHeartbeats 4000000 in
set_option maxRecDepth 100000 in
theorem t_X10_pathOf (l : Launch) (D : va_G) (cy : Nat → ClassId) (base : Nat) (τ : Nat → Nat) (G : Gh) (a : Nat) (h_a : τ a = 11) (v : Int32) (w : Int32) : MM l yX10_pathOf cX10_pathOf 4 (some .int) 0 0 0 D cy [.ref a, .int v, .int w] (PT D cy base τ G) (PuI (fun r => True)) noF := by
  refine MM.of (by decide) (Nat.le_of_ble_eq_true rfl) ?_
  intro p e s m below meth c C hPT ls hl
  obtain ⟨hx, hb, hr, hml, hown, hts, hlocks, hK, hnm⟩ := C
  obtain ⟨hZ, hT⟩ := hPT
  have hS : va_S (RA base) s.heap s.heap [] := va_S.rf
  have hl : lv_has ls 4 [(0, .ref a), (1, .int v), (2, .int w)] := hl
  refine lv_iconst (v := 0) hx hb dX10_pathOf_0 (by decide) ?_
  refine lv_istore_n (lv' := [(3, .int 0), (0, .ref a), (1, .int v), (2, .int w)]) hx hb dX10_pathOf_1 rfl hl (by decide) rfl (fun ls hl => ?_)
  refine W.loop (σ := Int32) (fun w1 H locs ls => 0 ≤ w1.toInt ∧ w1.toInt ≤ 8 ∧ H = s.heap ∧ locs = [] ∧ lv_has ls 4 [(3, .int w1), (0, .ref a), (1, .int v), (2, .int w)]) (fun w1 => (8 - w1.toInt).toNat) ?_ ((0 : Int32)) _ _ _ ⟨(by show 0 ≤ (0 : Int32).toInt; decide), (by show (0 : Int32).toInt ≤ 8; decide), rfl, rfl, lv_sub hl [0, 1, 2, 3] rfl⟩
  intro w1 H locs ls hI ih1
  obtain ⟨x1_3, e9⟩ : ∃ y, y = w1 := ⟨_, rfl⟩
  subst e9
  obtain ⟨i1_0, i1_1, rfl, rfl, hl⟩ := hI
  have i1_0 : 0 ≤ x1_3.toInt := i1_0
  have i1_1 : x1_3.toInt ≤ 8 := i1_1
  have hl : lv_has ls 4 [(3, .int x1_3), (0, .ref a), (1, .int v), (2, .int w)] := hl
  refine lv_iload_n hx hb dX10_pathOf_2 rfl (lv_at hl 0 rfl) ?_
  refine lv_aload_n hx hb dX10_pathOf_3 rfl (lv_at hl 1 rfl) ?_
  refine t_getr cf_11 hx hb hts hown hK hT h_a (k := 22) (P := fun q => τ q = 72) rfl (fun _ h9 => h9) fl_X10_49 (fun _ h9 => h9) dX10_pathOf_4 (fun q_2 eq_2 hq_2 => ?_)
  refine lv_iconst (v := 0) hx hb dX10_pathOf_7 (by decide) ?_
  refine t_iald (n := 5) (i := 0) rfl (by decide) hx hb hK hT hq_2 (hT.len hq_2 (by decide)) ⟨by decide, by decide⟩ dX10_pathOf_8 (fun z_3 ez_3 rz_3 => ?_)
  have ez_3 : z_3 = G.1 q_2 0 := ez_3
  have rz_3 : 0 ≤ z_3.toInt ∧ z_3.toInt ≤ 8 := rz_3
  refine lv_icmp_ge (tgt := 81) hx hb dX10_pathOf_9 (by decide) (fun c_4 => ?_) (fun c_4 => ?_)
  · skip
    have tc_4 : z_3.toInt ≤ x1_3.toInt := (fa_le _ _).mp c_4
    refine lv_iconst (v := (-1)) hx hb dX10_pathOf_81 (by decide) ?_
    exact ret_i hx hb hr hlocks ⟨rfl, _, rfl, trivial⟩ (fun _ h => absurd h List.not_mem_nil) (Nat.le_refl _) (Nat.le_refl _) dX10_pathOf_82
  · skip
    have tc_4 : ¬ z_3.toInt ≤ x1_3.toInt := fun h => c_4 ((fa_le _ _).mpr h)
    refine lv_aload_n hx hb dX10_pathOf_12 rfl (lv_at hl 1 rfl) ?_
    refine t_getr cf_11 hx hb hts hown hK hT h_a (k := 23) (P := fun q => τ q = 73) rfl (fun _ h9 => h9) fl_X10_52 (fun _ h9 => h9) dX10_pathOf_13 (fun q_5 eq_5 hq_5 => ?_)
    refine lv_iconst (v := 3) hx hb dX10_pathOf_16 (by decide) ?_
    refine lv_iload_n hx hb dX10_pathOf_17 rfl (lv_at hl 0 rfl) ?_
    refine lv_imul hx hb dX10_pathOf_18 ?_
    refine lv_topi (fun z_6 ez_6 => ?_)
    have tz_6 : z_6.toInt = 3 * x1_3.toInt := mul_t ez_6 (show -2147483648 ≤ 3 * x1_3.toInt by omega) (show 3 * x1_3.toInt < 2147483648 by omega)
    refine t_iald (n := 120) (i := z_6) rfl (by decide) hx hb hK hT hq_5 (hT.len hq_5 (by decide)) ⟨by omega, by omega⟩ dX10_pathOf_19 (fun z_7 ez_7 rz_7 => ?_)
    refine lv_iload_n hx hb dX10_pathOf_20 rfl (lv_at hl 2 rfl) ?_
    refine lv_icmp_ne (tgt := 38) hx hb dX10_pathOf_21 (by decide) (fun c_8 => ?_) (fun c_8 => ?_)
    · skip
      have tc_8 : ¬ z_7.toInt = v.toInt := fun h => c_8 ((fa_eq _ _).mpr h)
      refine lv_aload_n hx hb dX10_pathOf_38 rfl (lv_at hl 1 rfl) ?_
      refine t_getr cf_11 hx hb hts hown hK hT h_a (k := 23) (P := fun q => τ q = 73) rfl (fun _ h9 => h9) fl_X10_52 (fun _ h9 => h9) dX10_pathOf_39 (fun q_9 eq_9 hq_9 => ?_)
      have w_10 : q_5 = q_9 := Option.some.inj (eq_5.symm.trans eq_9)
      subst w_10
      refine lv_iconst (v := 3) hx hb dX10_pathOf_42 (by decide) ?_
      refine lv_iload_n hx hb dX10_pathOf_43 rfl (lv_at hl 0 rfl) ?_
      refine lv_imul hx hb dX10_pathOf_44 ?_
      refine lv_topi (fun z_11 ez_11 => ?_)
      have w_12 : z_6 = z_11 := ez_6.trans ez_11.symm
      subst w_12
      refine t_iald (n := 120) (i := z_6) rfl (by decide) hx hb hK hT hq_5 (hT.len hq_5 (by decide)) ⟨by omega, by omega⟩ dX10_pathOf_45 (fun z_13 ez_13 rz_13 => ?_)
      have w_14 : z_7 = z_13 := ez_7.trans ez_13.symm
      subst w_14
      refine lv_iload_n hx hb dX10_pathOf_46 rfl (lv_at hl 3 rfl) ?_
      refine lv_icmp_ne (tgt := 75) hx hb dX10_pathOf_47 (by decide) (fun c_15 => ?_) (fun c_15 => ?_)
      · skip
        have tc_15 : ¬ z_7.toInt = w.toInt := fun h => c_15 ((fa_eq _ _).mpr h)
        obtain ⟨z_16, ez_16⟩ : ∃ y : Int32, y = x1_3 + 1 := ⟨_, rfl⟩
        have tz_16 : z_16.toInt = x1_3.toInt + 1 := add_t ez_16 (show -2147483648 ≤ x1_3.toInt + 1 by omega) (show x1_3.toInt + 1 < 2147483648 by omega)
        refine lv_iinc (v := z_16) (lv' := [(3, .int z_16), (0, .ref a), (1, .int v), (2, .int w)]) hx hb dX10_pathOf_75 hl (k := 0) rfl (by rw [ez_16]; rfl) (by decide) rfl (fun ls hl => ?_)
        refine lv_goto (tgt := 2) hx hb dX10_pathOf_78 (by decide) ?_
        exact ih1 (z_16) _ _ _ (by show (8 - z_16.toInt).toNat < (8 - x1_3.toInt).toNat; omega) ⟨(by show 0 ≤ z_16.toInt; omega), (by show z_16.toInt ≤ 8; omega), rfl, rfl, lv_sub hl [0, 1, 2, 3] rfl⟩
      · skip
        have tc_15 : z_7.toInt = w.toInt := (fa_eq _ _).mp c_15
        refine lv_aload_n hx hb dX10_pathOf_50 rfl (lv_at hl 1 rfl) ?_
        refine t_getr cf_11 hx hb hts hown hK hT h_a (k := 23) (P := fun q => τ q = 73) rfl (fun _ h9 => h9) fl_X10_52 (fun _ h9 => h9) dX10_pathOf_51 (fun q_17 eq_17 hq_17 => ?_)
        have w_18 : q_5 = q_17 := Option.some.inj (eq_5.symm.trans eq_17)
        subst w_18
        refine lv_iconst (v := 3) hx hb dX10_pathOf_54 (by decide) ?_
        refine lv_iload_n hx hb dX10_pathOf_55 rfl (lv_at hl 0 rfl) ?_
        refine lv_imul hx hb dX10_pathOf_56 ?_
        refine lv_topi (fun z_19 ez_19 => ?_)
        have w_20 : z_6 = z_19 := ez_6.trans ez_19.symm
        subst w_20
        refine lv_iconst (v := 1) hx hb dX10_pathOf_57 (by decide) ?_
        refine lv_iadd hx hb dX10_pathOf_58 ?_
        refine lv_topi (fun z_21 ez_21 => ?_)
        have tz_21 : z_21.toInt = z_6.toInt + 1 := add_t ez_21 (show -2147483648 ≤ z_6.toInt + 1 by omega) (show z_6.toInt + 1 < 2147483648 by omega)
        refine t_iald (n := 120) (i := z_21) rfl (by decide) hx hb hK hT hq_5 (hT.len hq_5 (by decide)) ⟨by omega, by omega⟩ dX10_pathOf_59 (fun z_22 ez_22 rz_22 => ?_)
        refine lv_iload_n hx hb dX10_pathOf_60 rfl (lv_at hl 2 rfl) ?_
        refine lv_icmp_ne (tgt := 75) hx hb dX10_pathOf_61 (by decide) (fun c_23 => ?_) (fun c_23 => ?_)
        · skip
          have tc_23 : ¬ z_22.toInt = v.toInt := fun h => c_23 ((fa_eq _ _).mpr h)
          obtain ⟨z_24, ez_24⟩ : ∃ y : Int32, y = x1_3 + 1 := ⟨_, rfl⟩
          have tz_24 : z_24.toInt = x1_3.toInt + 1 := add_t ez_24 (show -2147483648 ≤ x1_3.toInt + 1 by omega) (show x1_3.toInt + 1 < 2147483648 by omega)
          refine lv_iinc (v := z_24) (lv' := [(3, .int z_24), (0, .ref a), (1, .int v), (2, .int w)]) hx hb dX10_pathOf_75 hl (k := 0) rfl (by rw [ez_24]; rfl) (by decide) rfl (fun ls hl => ?_)
          refine lv_goto (tgt := 2) hx hb dX10_pathOf_78 (by decide) ?_
          exact ih1 (z_24) _ _ _ (by show (8 - z_24.toInt).toNat < (8 - x1_3.toInt).toNat; omega) ⟨(by show 0 ≤ z_24.toInt; omega), (by show z_24.toInt ≤ 8; omega), rfl, rfl, lv_sub hl [0, 1, 2, 3] rfl⟩
        · skip
          have tc_23 : z_22.toInt = v.toInt := (fa_eq _ _).mp c_23
          refine lv_aload_n hx hb dX10_pathOf_64 rfl (lv_at hl 1 rfl) ?_
          refine t_getr cf_11 hx hb hts hown hK hT h_a (k := 23) (P := fun q => τ q = 73) rfl (fun _ h9 => h9) fl_X10_52 (fun _ h9 => h9) dX10_pathOf_65 (fun q_25 eq_25 hq_25 => ?_)
          have w_26 : q_5 = q_25 := Option.some.inj (eq_5.symm.trans eq_25)
          subst w_26
          refine lv_iconst (v := 3) hx hb dX10_pathOf_68 (by decide) ?_
          refine lv_iload_n hx hb dX10_pathOf_69 rfl (lv_at hl 0 rfl) ?_
          refine lv_imul hx hb dX10_pathOf_70 ?_
          refine lv_topi (fun z_27 ez_27 => ?_)
          have w_28 : z_6 = z_27 := ez_6.trans ez_27.symm
          subst w_28
          refine lv_iconst (v := 2) hx hb dX10_pathOf_71 (by decide) ?_
          refine lv_iadd hx hb dX10_pathOf_72 ?_
          refine lv_topi (fun z_29 ez_29 => ?_)
          have tz_29 : z_29.toInt = z_6.toInt + 2 := add_t ez_29 (show -2147483648 ≤ z_6.toInt + 2 by omega) (show z_6.toInt + 2 < 2147483648 by omega)
          refine t_iald (n := 120) (i := z_29) rfl (by decide) hx hb hK hT hq_5 (hT.len hq_5 (by decide)) ⟨by omega, by omega⟩ dX10_pathOf_73 (fun z_30 ez_30 rz_30 => ?_)
          exact ret_i hx hb hr hlocks ⟨rfl, _, rfl, trivial⟩ (fun _ h => absurd h List.not_mem_nil) (Nat.le_refl _) (Nat.le_refl _) dX10_pathOf_74
    · skip
      have tc_8 : z_7.toInt = v.toInt := (fa_eq _ _).mp c_8
      refine lv_aload_n hx hb dX10_pathOf_24 rfl (lv_at hl 1 rfl) ?_
      refine t_getr cf_11 hx hb hts hown hK hT h_a (k := 23) (P := fun q => τ q = 73) rfl (fun _ h9 => h9) fl_X10_52 (fun _ h9 => h9) dX10_pathOf_25 (fun q_31 eq_31 hq_31 => ?_)
      have w_32 : q_5 = q_31 := Option.some.inj (eq_5.symm.trans eq_31)
      subst w_32
      refine lv_iconst (v := 3) hx hb dX10_pathOf_28 (by decide) ?_
      refine lv_iload_n hx hb dX10_pathOf_29 rfl (lv_at hl 0 rfl) ?_
      refine lv_imul hx hb dX10_pathOf_30 ?_
      refine lv_topi (fun z_33 ez_33 => ?_)
      have w_34 : z_6 = z_33 := ez_6.trans ez_33.symm
      subst w_34
      refine lv_iconst (v := 1) hx hb dX10_pathOf_31 (by decide) ?_
      refine lv_iadd hx hb dX10_pathOf_32 ?_
      refine lv_topi (fun z_35 ez_35 => ?_)
      have tz_35 : z_35.toInt = z_6.toInt + 1 := add_t ez_35 (show -2147483648 ≤ z_6.toInt + 1 by omega) (show z_6.toInt + 1 < 2147483648 by omega)
      refine t_iald (n := 120) (i := z_35) rfl (by decide) hx hb hK hT hq_5 (hT.len hq_5 (by decide)) ⟨by omega, by omega⟩ dX10_pathOf_33 (fun z_36 ez_36 rz_36 => ?_)
      refine lv_iload_n hx hb dX10_pathOf_34 rfl (lv_at hl 3 rfl) ?_
      refine lv_icmp_eq (tgt := 64) hx hb dX10_pathOf_35 (by decide) (fun c_37 => ?_) (fun c_37 => ?_)
      · skip
        have tc_37 : z_36.toInt = w.toInt := (fa_eq _ _).mp c_37
        refine lv_aload_n hx hb dX10_pathOf_64 rfl (lv_at hl 1 rfl) ?_
        refine t_getr cf_11 hx hb hts hown hK hT h_a (k := 23) (P := fun q => τ q = 73) rfl (fun _ h9 => h9) fl_X10_52 (fun _ h9 => h9) dX10_pathOf_65 (fun q_38 eq_38 hq_38 => ?_)
        have w_39 : q_5 = q_38 := Option.some.inj (eq_5.symm.trans eq_38)
        subst w_39
        refine lv_iconst (v := 3) hx hb dX10_pathOf_68 (by decide) ?_
        refine lv_iload_n hx hb dX10_pathOf_69 rfl (lv_at hl 0 rfl) ?_
        refine lv_imul hx hb dX10_pathOf_70 ?_
        refine lv_topi (fun z_40 ez_40 => ?_)
        have w_41 : z_6 = z_40 := ez_6.trans ez_40.symm
        subst w_41
        refine lv_iconst (v := 2) hx hb dX10_pathOf_71 (by decide) ?_
        refine lv_iadd hx hb dX10_pathOf_72 ?_
        refine lv_topi (fun z_42 ez_42 => ?_)
        have tz_42 : z_42.toInt = z_6.toInt + 2 := add_t ez_42 (show -2147483648 ≤ z_6.toInt + 2 by omega) (show z_6.toInt + 2 < 2147483648 by omega)
        refine t_iald (n := 120) (i := z_42) rfl (by decide) hx hb hK hT hq_5 (hT.len hq_5 (by decide)) ⟨by omega, by omega⟩ dX10_pathOf_73 (fun z_43 ez_43 rz_43 => ?_)
        exact ret_i hx hb hr hlocks ⟨rfl, _, rfl, trivial⟩ (fun _ h => absurd h List.not_mem_nil) (Nat.le_refl _) (Nat.le_refl _) dX10_pathOf_74
      · skip
        have tc_37 : ¬ z_36.toInt = w.toInt := fun h => c_37 ((fa_eq _ _).mpr h)
        refine lv_aload_n hx hb dX10_pathOf_38 rfl (lv_at hl 1 rfl) ?_
        refine t_getr cf_11 hx hb hts hown hK hT h_a (k := 23) (P := fun q => τ q = 73) rfl (fun _ h9 => h9) fl_X10_52 (fun _ h9 => h9) dX10_pathOf_39 (fun q_44 eq_44 hq_44 => ?_)
        have w_45 : q_5 = q_44 := Option.some.inj (eq_5.symm.trans eq_44)
        subst w_45
        refine lv_iconst (v := 3) hx hb dX10_pathOf_42 (by decide) ?_
        refine lv_iload_n hx hb dX10_pathOf_43 rfl (lv_at hl 0 rfl) ?_
        refine lv_imul hx hb dX10_pathOf_44 ?_
        refine lv_topi (fun z_46 ez_46 => ?_)
        have w_47 : z_6 = z_46 := ez_6.trans ez_46.symm
        subst w_47
        refine t_iald (n := 120) (i := z_6) rfl (by decide) hx hb hK hT hq_5 (hT.len hq_5 (by decide)) ⟨by omega, by omega⟩ dX10_pathOf_45 (fun z_48 ez_48 rz_48 => ?_)
        have w_49 : z_7 = z_48 := ez_7.trans ez_48.symm
        subst w_49
        refine lv_iload_n hx hb dX10_pathOf_46 rfl (lv_at hl 3 rfl) ?_
        refine lv_icmp_ne (tgt := 75) hx hb dX10_pathOf_47 (by decide) (fun c_50 => ?_) (fun c_50 => ?_)
        · skip
          have tc_50 : ¬ z_7.toInt = w.toInt := fun h => c_50 ((fa_eq _ _).mpr h)
          obtain ⟨z_51, ez_51⟩ : ∃ y : Int32, y = x1_3 + 1 := ⟨_, rfl⟩
          have tz_51 : z_51.toInt = x1_3.toInt + 1 := add_t ez_51 (show -2147483648 ≤ x1_3.toInt + 1 by omega) (show x1_3.toInt + 1 < 2147483648 by omega)
          refine lv_iinc (v := z_51) (lv' := [(3, .int z_51), (0, .ref a), (1, .int v), (2, .int w)]) hx hb dX10_pathOf_75 hl (k := 0) rfl (by rw [ez_51]; rfl) (by decide) rfl (fun ls hl => ?_)
          refine lv_goto (tgt := 2) hx hb dX10_pathOf_78 (by decide) ?_
          exact ih1 (z_51) _ _ _ (by show (8 - z_51.toInt).toNat < (8 - x1_3.toInt).toNat; omega) ⟨(by show 0 ≤ z_51.toInt; omega), (by show z_51.toInt ≤ 8; omega), rfl, rfl, lv_sub hl [0, 1, 2, 3] rfl⟩
        · skip
          have tc_50 : z_7.toInt = w.toInt := (fa_eq _ _).mp c_50
          refine lv_aload_n hx hb dX10_pathOf_50 rfl (lv_at hl 1 rfl) ?_
          refine t_getr cf_11 hx hb hts hown hK hT h_a (k := 23) (P := fun q => τ q = 73) rfl (fun _ h9 => h9) fl_X10_52 (fun _ h9 => h9) dX10_pathOf_51 (fun q_52 eq_52 hq_52 => ?_)
          have w_53 : q_5 = q_52 := Option.some.inj (eq_5.symm.trans eq_52)
          subst w_53
          refine lv_iconst (v := 3) hx hb dX10_pathOf_54 (by decide) ?_
          refine lv_iload_n hx hb dX10_pathOf_55 rfl (lv_at hl 0 rfl) ?_
          refine lv_imul hx hb dX10_pathOf_56 ?_
          refine lv_topi (fun z_54 ez_54 => ?_)
          have w_55 : z_6 = z_54 := ez_6.trans ez_54.symm
          subst w_55
          refine lv_iconst (v := 1) hx hb dX10_pathOf_57 (by decide) ?_
          refine lv_iadd hx hb dX10_pathOf_58 ?_
          refine lv_topi (fun z_56 ez_56 => ?_)
          have w_57 : z_35 = z_56 := ez_35.trans ez_56.symm
          subst w_57
          refine t_iald (n := 120) (i := z_35) rfl (by decide) hx hb hK hT hq_5 (hT.len hq_5 (by decide)) ⟨by omega, by omega⟩ dX10_pathOf_59 (fun z_58 ez_58 rz_58 => ?_)
          have w_59 : z_36 = z_58 := ez_36.trans ez_58.symm
          subst w_59
          refine lv_iload_n hx hb dX10_pathOf_60 rfl (lv_at hl 2 rfl) ?_
          refine lv_icmp_ne (tgt := 75) hx hb dX10_pathOf_61 (by decide) (fun c_60 => ?_) (fun c_60 => ?_)
          · skip
            have tc_60 : ¬ z_36.toInt = v.toInt := fun h => c_60 ((fa_eq _ _).mpr h)
            obtain ⟨z_61, ez_61⟩ : ∃ y : Int32, y = x1_3 + 1 := ⟨_, rfl⟩
            have tz_61 : z_61.toInt = x1_3.toInt + 1 := add_t ez_61 (show -2147483648 ≤ x1_3.toInt + 1 by omega) (show x1_3.toInt + 1 < 2147483648 by omega)
            refine lv_iinc (v := z_61) (lv' := [(3, .int z_61), (0, .ref a), (1, .int v), (2, .int w)]) hx hb dX10_pathOf_75 hl (k := 0) rfl (by rw [ez_61]; rfl) (by decide) rfl (fun ls hl => ?_)
            refine lv_goto (tgt := 2) hx hb dX10_pathOf_78 (by decide) ?_
            exact ih1 (z_61) _ _ _ (by show (8 - z_61.toInt).toNat < (8 - x1_3.toInt).toNat; omega) ⟨(by show 0 ≤ z_61.toInt; omega), (by show z_61.toInt ≤ 8; omega), rfl, rfl, lv_sub hl [0, 1, 2, 3] rfl⟩
          · skip
            have tc_60 : z_36.toInt = v.toInt := (fa_eq _ _).mp c_60
            refine lv_aload_n hx hb dX10_pathOf_64 rfl (lv_at hl 1 rfl) ?_
            refine t_getr cf_11 hx hb hts hown hK hT h_a (k := 23) (P := fun q => τ q = 73) rfl (fun _ h9 => h9) fl_X10_52 (fun _ h9 => h9) dX10_pathOf_65 (fun q_62 eq_62 hq_62 => ?_)
            have w_63 : q_5 = q_62 := Option.some.inj (eq_5.symm.trans eq_62)
            subst w_63
            refine lv_iconst (v := 3) hx hb dX10_pathOf_68 (by decide) ?_
            refine lv_iload_n hx hb dX10_pathOf_69 rfl (lv_at hl 0 rfl) ?_
            refine lv_imul hx hb dX10_pathOf_70 ?_
            refine lv_topi (fun z_64 ez_64 => ?_)
            have w_65 : z_6 = z_64 := ez_6.trans ez_64.symm
            subst w_65
            refine lv_iconst (v := 2) hx hb dX10_pathOf_71 (by decide) ?_
            refine lv_iadd hx hb dX10_pathOf_72 ?_
            refine lv_topi (fun z_66 ez_66 => ?_)
            have tz_66 : z_66.toInt = z_6.toInt + 2 := add_t ez_66 (show -2147483648 ≤ z_6.toInt + 2 by omega) (show z_6.toInt + 2 < 2147483648 by omega)
            refine t_iald (n := 120) (i := z_66) rfl (by decide) hx hb hK hT hq_5 (hT.len hq_5 (by decide)) ⟨by omega, by omega⟩ dX10_pathOf_73 (fun z_67 ez_67 rz_67 => ?_)
            exact ret_i hx hb hr hlocks ⟨rfl, _, rfl, trivial⟩ (fun _ h => absurd h List.not_mem_nil) (Nat.le_refl _) (Nat.le_refl _) dX10_pathOf_74
set_option maxHeartbeats 4000000 in
set_option maxRecDepth 100000 in
theorem t_X10_fedBy (l : Launch) (D : va_G) (cy : Nat → ClassId) (base : Nat) (τ : Nat → Nat) (G : Gh) (a : Nat) (h_a : τ a = 11) (v : Int32) (w : Int32) (z : Int32) : MM l yX10_fedBy cX10_fedBy 5 (some .int) 1 0 0 D cy [.ref a, .int v, .int w, .int z] (PT D cy base τ G) (PuI (fun r => True)) noF := by
  refine MM.of (by decide) (Nat.le_of_ble_eq_true rfl) ?_
  intro p e s m below meth c C hPT ls hl
  obtain ⟨hx, hb, hr, hml, hown, hts, hlocks, hK, hnm⟩ := C
  obtain ⟨hZ, hT⟩ := hPT
  have hS : va_S (RA base) s.heap s.heap [] := va_S.rf
  have hl : lv_has ls 5 [(0, .ref a), (1, .int v), (2, .int w), (3, .int z)] := hl
  refine lv_iload_n hx hb dX10_fedBy_0 rfl (lv_at hl 2 rfl) ?_
  refine lv_if_eq (tgt := 13) hx hb dX10_fedBy_1 (by decide) (fun c_1 => ?_) (fun c_1 => ?_)
  · skip
    have tc_1 : w.toInt = 0 := (fa_eq _ _).mp c_1
    refine lv_iconst (v := 0) hx hb dX10_fedBy_13 (by decide) ?_
    exact ret_i hx hb hr hlocks ⟨rfl, _, rfl, trivial⟩ (fun _ h => absurd h List.not_mem_nil) (Nat.le_refl _) (Nat.le_refl _) dX10_fedBy_14
  · skip
    have tc_1 : ¬ w.toInt = 0 := fun h => c_1 ((fa_eq _ _).mpr h)
    refine lv_iload_n hx hb dX10_fedBy_4 rfl (lv_at hl 3 rfl) ?_
    refine lv_if_eq (tgt := 15) hx hb dX10_fedBy_5 (by decide) (fun c_2 => ?_) (fun c_2 => ?_)
    · skip
      have tc_2 : z.toInt = 0 := (fa_eq _ _).mp c_2
      refine lv_iload_n hx hb dX10_fedBy_15 rfl (lv_at hl 3 rfl) ?_
      refine lv_if_ne (tgt := 26) hx hb dX10_fedBy_16 (by decide) (fun c_3 => ?_) (fun c_3 => ?_)
      · skip
        have tc_3 : ¬ z.toInt = 0 := fun h => c_3 ((fa_eq _ _).mpr h)
        exfalso; omega
      · skip
        have tc_3 : z.toInt = 0 := (fa_eq _ _).mp c_3
        refine lv_aload_n hx hb dX10_fedBy_19 rfl (lv_at hl 0 rfl) ?_
        obtain ⟨q_4, eq_4, hq_4⟩ := (show ∃ q, G.2.2.1 a 17 = some q ∧ τ q = 67 from hT.rgr h_a (by decide) 17)
        obtain ⟨z_5, ez_5⟩ : ∃ y : Int32, y = G.1 q_4 0 := ⟨_, rfl⟩
        have qz_5 : (0 % 4 = 0 → 0 ≤ z_5.toInt ∧ z_5.toInt ≤ 60) := by rw [ez_5]; exact hT.rgi hq_4 (by decide) 0
        have rz_5 : 0 ≤ z_5.toInt ∧ z_5.toInt ≤ 60 := by omega
        refine pu_calli (runV (As := []) (rest := []) ⟨hx, hb, hml, hown, hts⟩ (t_X10_lastDay l D cy base τ G a h_a q_4 hq_4 eq_4 z_5 ez_5 ⟨by omega, by omega⟩) sV_X10_278 hK (t_recv cf_11 hK hT h_a) ⟨Nat.le_trans hZ hS.1, hT⟩ ⟨Nat.le_of_ble_eq_true rfl, Nat.le_of_ble_eq_true rfl⟩ rfl hl.1 rfl (Nat.le_of_ble_eq_true rfl) dX10_fedBy_20 ⟨Nat.le_of_ble_eq_true rfl, Nat.le_of_ble_eq_true rfl⟩) (fun r_6 hr_6 => ?_)
        have er_6 := hr_6
        have er_6 := er_6.symm
        subst er_6
        refine W.eq (g2 := F0 m 23 ls [.int z_5]) rfl ?_
        refine lv_goto (tgt := 27) hx hb dX10_fedBy_23 (by decide) ?_
        refine lv_iload_n hx hb dX10_fedBy_27 rfl (lv_at hl 2 rfl) ?_
        refine lv_isub hx hb dX10_fedBy_28 ?_
        refine lv_topi (fun z_7 ez_7 => ?_)
        refine lv_istore (lv' := [(4, .int z_7), (0, .ref a), (1, .int v), (2, .int w), (3, .int z)]) hx hb dX10_fedBy_29 hl (by decide) rfl (fun ls hl => ?_)
        refine lv_iload_n hx hb dX10_fedBy_31 rfl (lv_at hl 2 rfl) ?_
        refine lv_iload hx hb dX10_fedBy_32 (lv_at hl 0 rfl) ?_
        refine lv_icmp_ge (tgt := 41) hx hb dX10_fedBy_34 (by decide) (fun c_8 => ?_) (fun c_8 => ?_)
        · skip
          have tc_8 : z_7.toInt ≤ v.toInt := (fa_le _ _).mp c_8
          refine lv_iload hx hb dX10_fedBy_41 (lv_at hl 0 rfl) ?_
          exact ret_i hx hb hr hlocks ⟨rfl, _, rfl, trivial⟩ (fun _ h => absurd h List.not_mem_nil) (Nat.le_refl _) (Nat.le_refl _) dX10_fedBy_43
        · skip
          have tc_8 : ¬ z_7.toInt ≤ v.toInt := fun h => c_8 ((fa_le _ _).mpr h)
          have mc_8 : z_7.toInt ≤ 2147483647 := max_t z_7
          refine lv_iload_n hx hb dX10_fedBy_37 rfl (lv_at hl 2 rfl) ?_
          refine lv_goto (tgt := 43) hx hb dX10_fedBy_38 (by decide) ?_
          exact ret_i hx hb hr hlocks ⟨rfl, _, rfl, trivial⟩ (fun _ h => absurd h List.not_mem_nil) (Nat.le_refl _) (Nat.le_refl _) dX10_fedBy_43
    · skip
      have tc_2 : ¬ z.toInt = 0 := fun h => c_2 ((fa_eq _ _).mpr h)
      refine lv_iload_n hx hb dX10_fedBy_8 rfl (lv_at hl 3 rfl) ?_
      refine lv_iload_n hx hb dX10_fedBy_9 rfl (lv_at hl 2 rfl) ?_
      refine lv_icmp_gt (tgt := 15) hx hb dX10_fedBy_10 (by decide) (fun c_9 => ?_) (fun c_9 => ?_)
      · skip
        have tc_9 : w.toInt < z.toInt := (fa_lt _ _).mp c_9
        have mc_9 : z.toInt ≤ 2147483647 := max_t z
        refine lv_iload_n hx hb dX10_fedBy_15 rfl (lv_at hl 3 rfl) ?_
        refine lv_if_ne (tgt := 26) hx hb dX10_fedBy_16 (by decide) (fun c_10 => ?_) (fun c_10 => ?_)
        · skip
          have tc_10 : ¬ z.toInt = 0 := fun h => c_10 ((fa_eq _ _).mpr h)
          refine lv_iload_n hx hb dX10_fedBy_26 rfl (lv_at hl 3 rfl) ?_
          refine lv_iload_n hx hb dX10_fedBy_27 rfl (lv_at hl 2 rfl) ?_
          refine lv_isub hx hb dX10_fedBy_28 ?_
          refine lv_topi (fun z_11 ez_11 => ?_)
          refine lv_istore (lv' := [(4, .int z_11), (0, .ref a), (1, .int v), (2, .int w), (3, .int z)]) hx hb dX10_fedBy_29 hl (by decide) rfl (fun ls hl => ?_)
          refine lv_iload_n hx hb dX10_fedBy_31 rfl (lv_at hl 2 rfl) ?_
          refine lv_iload hx hb dX10_fedBy_32 (lv_at hl 0 rfl) ?_
          refine lv_icmp_ge (tgt := 41) hx hb dX10_fedBy_34 (by decide) (fun c_12 => ?_) (fun c_12 => ?_)
          · skip
            have tc_12 : z_11.toInt ≤ v.toInt := (fa_le _ _).mp c_12
            refine lv_iload hx hb dX10_fedBy_41 (lv_at hl 0 rfl) ?_
            exact ret_i hx hb hr hlocks ⟨rfl, _, rfl, trivial⟩ (fun _ h => absurd h List.not_mem_nil) (Nat.le_refl _) (Nat.le_refl _) dX10_fedBy_43
          · skip
            have tc_12 : ¬ z_11.toInt ≤ v.toInt := fun h => c_12 ((fa_le _ _).mpr h)
            have mc_12 : z_11.toInt ≤ 2147483647 := max_t z_11
            refine lv_iload_n hx hb dX10_fedBy_37 rfl (lv_at hl 2 rfl) ?_
            refine lv_goto (tgt := 43) hx hb dX10_fedBy_38 (by decide) ?_
            exact ret_i hx hb hr hlocks ⟨rfl, _, rfl, trivial⟩ (fun _ h => absurd h List.not_mem_nil) (Nat.le_refl _) (Nat.le_refl _) dX10_fedBy_43
        · skip
          have tc_10 : z.toInt = 0 := (fa_eq _ _).mp c_10
          refine lv_aload_n hx hb dX10_fedBy_19 rfl (lv_at hl 0 rfl) ?_
          obtain ⟨q_13, eq_13, hq_13⟩ := (show ∃ q, G.2.2.1 a 17 = some q ∧ τ q = 67 from hT.rgr h_a (by decide) 17)
          obtain ⟨z_14, ez_14⟩ : ∃ y : Int32, y = G.1 q_13 0 := ⟨_, rfl⟩
          have qz_14 : (0 % 4 = 0 → 0 ≤ z_14.toInt ∧ z_14.toInt ≤ 60) := by rw [ez_14]; exact hT.rgi hq_13 (by decide) 0
          have rz_14 : 0 ≤ z_14.toInt ∧ z_14.toInt ≤ 60 := by omega
          refine pu_calli (runV (As := []) (rest := []) ⟨hx, hb, hml, hown, hts⟩ (t_X10_lastDay l D cy base τ G a h_a q_13 hq_13 eq_13 z_14 ez_14 ⟨by omega, by omega⟩) sV_X10_278 hK (t_recv cf_11 hK hT h_a) ⟨Nat.le_trans hZ hS.1, hT⟩ ⟨Nat.le_of_ble_eq_true rfl, Nat.le_of_ble_eq_true rfl⟩ rfl hl.1 rfl (Nat.le_of_ble_eq_true rfl) dX10_fedBy_20 ⟨Nat.le_of_ble_eq_true rfl, Nat.le_of_ble_eq_true rfl⟩) (fun r_15 hr_15 => ?_)
          have er_15 := hr_15
          have er_15 := er_15.symm
          subst er_15
          refine W.eq (g2 := F0 m 23 ls [.int z_14]) rfl ?_
          refine lv_goto (tgt := 27) hx hb dX10_fedBy_23 (by decide) ?_
          refine lv_iload_n hx hb dX10_fedBy_27 rfl (lv_at hl 2 rfl) ?_
          refine lv_isub hx hb dX10_fedBy_28 ?_
          refine lv_topi (fun z_16 ez_16 => ?_)
          refine lv_istore (lv' := [(4, .int z_16), (0, .ref a), (1, .int v), (2, .int w), (3, .int z)]) hx hb dX10_fedBy_29 hl (by decide) rfl (fun ls hl => ?_)
          refine lv_iload_n hx hb dX10_fedBy_31 rfl (lv_at hl 2 rfl) ?_
          refine lv_iload hx hb dX10_fedBy_32 (lv_at hl 0 rfl) ?_
          refine lv_icmp_ge (tgt := 41) hx hb dX10_fedBy_34 (by decide) (fun c_17 => ?_) (fun c_17 => ?_)
          · skip
            have tc_17 : z_16.toInt ≤ v.toInt := (fa_le _ _).mp c_17
            refine lv_iload hx hb dX10_fedBy_41 (lv_at hl 0 rfl) ?_
            exact ret_i hx hb hr hlocks ⟨rfl, _, rfl, trivial⟩ (fun _ h => absurd h List.not_mem_nil) (Nat.le_refl _) (Nat.le_refl _) dX10_fedBy_43
          · skip
            have tc_17 : ¬ z_16.toInt ≤ v.toInt := fun h => c_17 ((fa_le _ _).mpr h)
            have mc_17 : z_16.toInt ≤ 2147483647 := max_t z_16
            refine lv_iload_n hx hb dX10_fedBy_37 rfl (lv_at hl 2 rfl) ?_
            refine lv_goto (tgt := 43) hx hb dX10_fedBy_38 (by decide) ?_
            exact ret_i hx hb hr hlocks ⟨rfl, _, rfl, trivial⟩ (fun _ h => absurd h List.not_mem_nil) (Nat.le_refl _) (Nat.le_refl _) dX10_fedBy_43
      · skip
        have tc_9 : ¬ w.toInt < z.toInt := fun h => c_9 ((fa_lt _ _).mpr h)
        refine lv_iconst (v := 0) hx hb dX10_fedBy_13 (by decide) ?_
        exact ret_i hx hb hr hlocks ⟨rfl, _, rfl, trivial⟩ (fun _ h => absurd h List.not_mem_nil) (Nat.le_refl _) (Nat.le_refl _) dX10_fedBy_14
set_option maxHeartbeats 4000000 in
set_option maxRecDepth 100000 in
theorem t_X10_path (l : Launch) (D : va_G) (cy : Nat → ClassId) (base : Nat) (τ : Nat → Nat) (G : Gh) (a : Nat) (h_a : τ a = 11) (v0 : Int32) (v1 : Int32) (v2 : Int32) (v3 : Int32) : MM l yX10_path cX10_path 10 (some .long) 4 0 0 D cy [.ref a, .int v0, .int v1, .int v2, .int v3] (PT D cy base τ G) (QT D cy base τ G [11, 79, 80, 81, 82] (fun v g => ∃ r : Int64, v = some (.long r) ∧ (True))) (RA base) := by
  refine MM.of (by decide) (Nat.le_of_ble_eq_true rfl) ?_
  intro p e s m below meth c C hPT ls hl
  obtain ⟨hx, hb, hr, hml, hown, hts, hlocks, hK, hnm⟩ := C
  obtain ⟨hZ, hT⟩ := hPT
  have hS : va_S (RA base) s.heap s.heap [] := va_S.rf
  have hF : Fr τ [11, 79, 80, 81, 82] G G := Fr.rf
  have hl : lv_has ls 10 [(0, .ref a), (1, .int v0), (2, .int v1), (3, .int v2), (4, .int v3)] := hl
  refine lv_aload_n hx hb dX10_path_0 rfl (lv_at hl 0 rfl) ?_
  refine lv_iconst (v := 0) hx hb dX10_path_1 (by decide) ?_
  refine t_puti (x := 0) cf_11 hx hb hts hown hK hT hS h_a (k := 0) rfl trivial fl_X10_111 (fun _ h9 => h9) rfl rfl rfl dX10_path_2 (fun H locs G_1 eG_1 hT hS => ?_)
  have hF := hF.wI eG_1 h_a rfl
  refine lv_aload_n hx hb dX10_path_5 rfl (lv_at hl 0 rfl) ?_
  refine lv_iload_n hx hb dX10_path_6 rfl (lv_at hl 1 rfl) ?_
  refine lv_iload_n hx hb dX10_path_7 rfl (lv_at hl 2 rfl) ?_
  refine pu_calli (runV (As := [.int v0, .int v1]) (rest := []) ⟨hx, hb, hml, hown, hts⟩ (t_X10_areTwo l D cy base τ G_1 a h_a v0 v1) sV_X10_323 hK (t_recv cf_11 hK hT h_a) ⟨Nat.le_trans hZ hS.1, hT⟩ ⟨Nat.le_of_ble_eq_true rfl, Nat.le_of_ble_eq_true rfl⟩ rfl hl.1 rfl (Nat.le_of_ble_eq_true rfl) dX10_path_8 ⟨Nat.le_of_ble_eq_true rfl, Nat.le_of_ble_eq_true rfl⟩) (fun r_2 hr_2 => ?_)
  have hr_2_c := hr_2
  rcases hr_2_c with hr_2_0 | hr_2_1
  · skip
    obtain ⟨er_2, hr_2_0_f0, hr_2_0_f1, hr_2_0_f2, hr_2_0_f3⟩ := hr_2_0
    have hr_2_0_f0 : 0 ≤ v0.toInt := hr_2_0_f0
    have hr_2_0_f1 : v0.toInt ≤ 5 := hr_2_0_f1
    have hr_2_0_f2 : 0 ≤ v1.toInt := hr_2_0_f2
    have hr_2_0_f3 : v1.toInt ≤ 5 := hr_2_0_f3
    subst er_2
    refine W.eq (g2 := F0 m 11 ls [.int 1]) rfl ?_
    refine lv_if_eq (tgt := 31) hx hb dX10_path_11 (by decide) (fun c_3 => absurd c_3 (by decide)) (fun _ => ?_)
    refine lv_aload_n hx hb dX10_path_14 rfl (lv_at hl 0 rfl) ?_
    refine lv_iload_n hx hb dX10_path_15 rfl (lv_at hl 3 rfl) ?_
    refine pu_calli (runV (As := [.int v2]) (rest := []) ⟨hx, hb, hml, hown, hts⟩ (t_X10_isThing l D cy base τ G_1 a h_a v2) sV_X10_350 hK (t_recv cf_11 hK hT h_a) ⟨Nat.le_trans hZ hS.1, hT⟩ ⟨Nat.le_of_ble_eq_true rfl, Nat.le_of_ble_eq_true rfl⟩ rfl hl.1 rfl (Nat.le_of_ble_eq_true rfl) dX10_path_16 ⟨Nat.le_of_ble_eq_true rfl, Nat.le_of_ble_eq_true rfl⟩) (fun r_4 hr_4 => ?_)
    have hr_4_c := hr_4
    rcases hr_4_c with hr_4_0 | hr_4_1
    · skip
      obtain ⟨er_4, hr_4_0_f0, hr_4_0_f1⟩ := hr_4_0
      have hr_4_0_f0 : 0 ≤ v2.toInt := hr_4_0_f0
      have hr_4_0_f1 : v2.toInt ≤ 2 := hr_4_0_f1
      subst er_4
      refine W.eq (g2 := F0 m 19 ls [.int 1]) rfl ?_
      refine lv_if_eq (tgt := 31) hx hb dX10_path_19 (by decide) (fun c_5 => absurd c_5 (by decide)) (fun _ => ?_)
      refine lv_aload_n hx hb dX10_path_22 rfl (lv_at hl 0 rfl) ?_
      refine lv_iload hx hb dX10_path_23 (lv_at hl 4 rfl) ?_
      refine pu_calli (runV (As := [.int v3]) (rest := []) ⟨hx, hb, hml, hown, hts⟩ (t_X10_areSacks l D cy base τ G_1 a h_a v3) sV_X10_372 hK (t_recv cf_11 hK hT h_a) ⟨Nat.le_trans hZ hS.1, hT⟩ ⟨Nat.le_of_ble_eq_true rfl, Nat.le_of_ble_eq_true rfl⟩ rfl hl.1 rfl (Nat.le_of_ble_eq_true rfl) dX10_path_25 ⟨Nat.le_of_ble_eq_true rfl, Nat.le_of_ble_eq_true rfl⟩) (fun r_6 hr_6 => ?_)
      have hr_6_c := hr_6
      rcases hr_6_c with hr_6_0 | hr_6_1
      · skip
        obtain ⟨er_6, hr_6_0_f0, hr_6_0_f1⟩ := hr_6_0
        have hr_6_0_f0 : 0 ≤ v3.toInt := hr_6_0_f0
        have hr_6_0_f1 : v3.toInt ≤ 999 := hr_6_0_f1
        subst er_6
        refine W.eq (g2 := F0 m 28 ls [.int 1]) rfl ?_
        refine lv_if_ne (tgt := 35) hx hb dX10_path_28 (by decide) (fun _ => ?_) (fun c_7 => absurd c_7 (by decide))
        refine lv_aload_n hx hb dX10_path_35 rfl (lv_at hl 0 rfl) ?_
        refine lv_iload_n hx hb dX10_path_36 rfl (lv_at hl 1 rfl) ?_
        refine lv_iload_n hx hb dX10_path_37 rfl (lv_at hl 2 rfl) ?_
        refine pu_calli (runV (As := [.int v0, .int v1]) (rest := []) ⟨hx, hb, hml, hown, hts⟩ (t_X10_pathOf l D cy base τ G_1 a h_a v0 v1) sV_X10_435 hK (t_recv cf_11 hK hT h_a) ⟨Nat.le_trans hZ hS.1, hT⟩ ⟨Nat.le_of_ble_eq_true rfl, Nat.le_of_ble_eq_true rfl⟩ rfl hl.1 rfl (Nat.le_of_ble_eq_true rfl) dX10_path_38 ⟨Nat.le_of_ble_eq_true rfl, Nat.le_of_ble_eq_true rfl⟩) (fun r_8 hr_8 => ?_)
        refine lv_istore (lv' := [(5, .int r_8), (0, .ref a), (1, .int v0), (2, .int v1), (3, .int v2), (4, .int v3)]) hx hb dX10_path_41 hl (by decide) rfl (fun ls hl => ?_)
        refine lv_iload hx hb dX10_path_43 (lv_at hl 0 rfl) ?_
        refine lv_iconst (v := (-1)) hx hb dX10_path_45 (by decide) ?_
        refine lv_icmp_ne (tgt := 67) hx hb dX10_path_46 (by decide) (fun c_9 => ?_) (fun c_9 => ?_)
        · skip
          have tc_9 : ¬ r_8.toInt = -1 := fun h => c_9 ((fa_eq _ _).mpr h)
          refine lv_aload_n hx hb dX10_path_67 rfl (lv_at hl 1 rfl) ?_
          refine lv_iload_n hx hb dX10_path_68 rfl (lv_at hl 2 rfl) ?_
          refine lv_iload_n hx hb dX10_path_69 rfl (lv_at hl 3 rfl) ?_
          refine t_callv (runV (As := [.int v0, .int v1]) (rest := []) ⟨hx, hb, hml, hown, hts⟩ (t_X10_splitsTwo l D cy base τ G_1 a h_a v0 ⟨by omega, by omega⟩ v1 ⟨by omega, by omega⟩) sV_X10_327 hK (t_recv cf_11 hK hT h_a) ⟨Nat.le_trans hZ hS.1, hT⟩ ⟨Nat.le_of_ble_eq_true rfl, Nat.le_of_ble_eq_true rfl⟩ rfl hl.1 rfl (Nat.le_of_ble_eq_true rfl) dX10_path_70 ⟨Nat.le_of_ble_eq_true rfl, Nat.le_of_ble_eq_true rfl⟩) hS (fun G_10 H locs hF_10 hr_10 hT hS => ?_)
          have hF := hF.tr hF_10 rfl
          refine lv_ldc2 (v := 1000000000000) hx hb hown (hts _ kl_X10_284) dX10_path_73 ?_
          refine lv_aload_n hx hb dX10_path_76 rfl (lv_at hl 1 rfl) ?_
          refine lv_iload_n hx hb dX10_path_77 rfl (lv_at hl 4 rfl) ?_
          refine pu_calli (runV (As := [.int v2]) (rest := [.long 1000000000000]) ⟨hx, hb, hml, hown, hts⟩ (t_X10_priceOf l D cy base τ G_10 a h_a v2 ⟨by omega, by omega⟩) sV_X10_363 hK (t_recv cf_11 hK hT h_a) ⟨Nat.le_trans hZ hS.1, hT⟩ ⟨Nat.le_of_ble_eq_true rfl, Nat.le_of_ble_eq_true rfl⟩ rfl hl.1 rfl (Nat.le_of_ble_eq_true rfl) dX10_path_78 ⟨Nat.le_of_ble_eq_true rfl, Nat.le_of_ble_eq_true rfl⟩) (fun r_11 hr_11 => ?_)
          refine lv_i2l hx hb dX10_path_81 rfl ?_
          refine lv_topl (fun z_12 ez_12 => ?_)
          have tz_12 : z_12.toInt = r_11.toInt := by rw [ez_12]; exact wide_t r_11
          have az_12 := min_t r_11
          have bz_12 := max_t r_11
          refine lv_lmul hx hb dX10_path_82 ?_
          refine lv_topl (fun z_13 ez_13 => ?_)
          refine lv_iload hx hb dX10_path_83 (lv_at hl 5 rfl) ?_
          refine lv_i2l hx hb dX10_path_85 rfl ?_
          refine lv_topl (fun z_14 ez_14 => ?_)
          have tz_14 : z_14.toInt = v3.toInt := by rw [ez_14]; exact wide_t v3
          refine lv_lmul hx hb dX10_path_86 ?_
          refine lv_topl (fun z_15 ez_15 => ?_)
          refine lv_lstore (lv' := [(6, .long z_15), (5, .int r_8), (0, .ref a), (1, .int v0), (2, .int v1), (3, .int v2), (4, .int v3)]) hx hb dX10_path_87 hl (by decide) rfl (fun ls hl => ?_)
          refine lv_iconst (v := 0) hx hb dX10_path_89 (by decide) ?_
          refine lv_istore (lv' := [(8, .int 0), (6, .long z_15), (5, .int r_8), (0, .ref a), (1, .int v0), (2, .int v1), (3, .int v2), (4, .int v3)]) hx hb dX10_path_90 hl (by decide) rfl (fun ls hl => ?_)
          refine W.loop (σ := Int64 × Int32 × Gh) (fun w16 H locs ls => 0 ≤ w16.2.1.toInt ∧ w16.2.1.toInt ≤ 61 ∧ Fr τ [11, 79, 80, 81, 82] G w16.2.2 ∧ TY D cy base τ w16.2.2 H ∧ va_S (RA base) s.heap H locs ∧ lv_has ls 10 [(6, .long w16.1), (8, .int w16.2.1), (5, .int r_8), (0, .ref a), (1, .int v0), (2, .int v1), (3, .int v2), (4, .int v3)]) (fun w16 => (61 - w16.2.1.toInt).toNat) ?_ (z_15, (0 : Int32), G_10) _ _ _ ⟨(by show 0 ≤ (0 : Int32).toInt; decide), (by show (0 : Int32).toInt ≤ 61; decide), hF, hT, hS, lv_sub hl [1, 0, 2, 3, 4, 5, 6, 7] rfl⟩
          intro w16 H locs ls hI ih16
          obtain ⟨x16_6, x16_8, G_16⟩ := w16
          obtain ⟨i16_0, i16_1, hF, hT, hS, hl⟩ := hI
          have i16_0 : 0 ≤ x16_8.toInt := i16_0
          have i16_1 : x16_8.toInt ≤ 61 := i16_1
          have hF : Fr τ [11, 79, 80, 81, 82] G G_16 := hF
          have hT : TY D cy base τ G_16 H := hT
          have hS : va_S (RA base) s.heap H locs := hS
          have hl : lv_has ls 10 [(6, .long x16_6), (8, .int x16_8), (5, .int r_8), (0, .ref a), (1, .int v0), (2, .int v1), (3, .int v2), (4, .int v3)] := hl
          refine lv_iload hx hb dX10_path_92 (lv_at hl 1 rfl) ?_
          refine lv_aload_n hx hb dX10_path_94 rfl (lv_at hl 3 rfl) ?_
          obtain ⟨q_17, eq_17, hq_17⟩ := (show ∃ q, G_16.2.2.1 a 17 = some q ∧ τ q = 67 from hT.rgr h_a (by decide) 17)
          have eq_17 := (hF.r h_a (by decide) rfl _).symm.trans eq_17
          obtain ⟨z_18, ez_18⟩ : ∃ y : Int32, y = G_16.1 q_17 0 := ⟨_, rfl⟩
          have qz_18 : (0 % 4 = 0 → 0 ≤ z_18.toInt ∧ z_18.toInt ≤ 60) := by rw [ez_18]; exact hT.rgi hq_17 (by decide) 0
          have rz_18 : 0 ≤ z_18.toInt ∧ z_18.toInt ≤ 60 := by omega
          have ez_18 : z_18 = G.1 q_17 0 := ez_18.trans (hF.i hq_17 (by decide) rfl _)
          refine pu_calli (runV (As := []) (rest := [.int x16_8]) ⟨hx, hb, hml, hown, hts⟩ (t_X10_lastDay l D cy base τ G_16 a h_a q_17 hq_17 ((hF.r h_a (by decide) rfl _).trans eq_17) z_18 (ez_18.trans (hF.i hq_17 (by decide) rfl _).symm) ⟨by omega, by omega⟩) sV_X10_278 hK (t_recv cf_11 hK hT h_a) ⟨Nat.le_trans hZ hS.1, hT⟩ ⟨Nat.le_of_ble_eq_true rfl, Nat.le_of_ble_eq_true rfl⟩ rfl hl.1 rfl (Nat.le_of_ble_eq_true rfl) dX10_path_95 ⟨Nat.le_of_ble_eq_true rfl, Nat.le_of_ble_eq_true rfl⟩) (fun r_19 hr_19 => ?_)
          have er_19 := hr_19
          have er_19 := er_19.symm
          subst er_19
          refine W.eq (g2 := F0 m 98 ls [.int z_18, .int x16_8]) rfl ?_
          refine lv_icmp_gt (tgt := 180) hx hb dX10_path_98 (by decide) (fun c_20 => ?_) (fun c_20 => ?_)
          · skip
            have tc_20 : z_18.toInt < x16_8.toInt := (fa_lt _ _).mp c_20
            refine lv_lload hx hb dX10_path_180 (lv_at hl 0 rfl) ?_
            refine lv_ldc2 (v := 1000000000) hx hb hown (hts _ kl_X10_345) dX10_path_182 ?_
            refine lv_ldiv hx hb dX10_path_185 (by decide) ?_
            refine lv_topl (fun z_21 ez_21 => ?_)
            exact ret_l hx hb hr hlocks ⟨⟨hS.1, hS.2.1⟩, G_16, hF, ⟨_, rfl, trivial⟩, hT⟩ hS.2.2 (Nat.le_of_ble_eq_true rfl) (Nat.le_of_ble_eq_true rfl) dX10_path_186
          · skip
            have tc_20 : ¬ z_18.toInt < x16_8.toInt := fun h => c_20 ((fa_lt _ _).mpr h)
            refine lv_iconst (v := 0) hx hb dX10_path_101 (by decide) ?_
            refine lv_istore (lv' := [(9, .int 0), (6, .long x16_6), (8, .int x16_8), (5, .int r_8), (0, .ref a), (1, .int v0), (2, .int v1), (3, .int v2), (4, .int v3)]) hx hb dX10_path_102 hl (by decide) rfl (fun ls hl => ?_)
            refine W.loop (σ := Int64 × Int32 × Gh) (fun w22 H locs ls => 0 ≤ w22.2.1.toInt ∧ w22.2.1.toInt ≤ 61 ∧ Fr τ [11, 79, 80, 81, 82] G w22.2.2 ∧ TY D cy base τ w22.2.2 H ∧ va_S (RA base) s.heap H locs ∧ lv_has ls 10 [(6, .long w22.1), (9, .int w22.2.1), (8, .int x16_8), (5, .int r_8), (0, .ref a), (1, .int v0), (2, .int v1), (3, .int v2), (4, .int v3)]) (fun w22 => (61 - w22.2.1.toInt).toNat) ?_ (x16_6, (0 : Int32), G_16) _ _ _ ⟨(by show 0 ≤ (0 : Int32).toInt; decide), (by show (0 : Int32).toInt ≤ 61; decide), hF, hT, hS, lv_sub hl [1, 0, 2, 3, 4, 5, 6, 7, 8] rfl⟩
            intro w22 H locs ls hI ih22
            obtain ⟨x22_6, x22_9, G_22⟩ := w22
            obtain ⟨i22_0, i22_1, hF, hT, hS, hl⟩ := hI
            have i22_0 : 0 ≤ x22_9.toInt := i22_0
            have i22_1 : x22_9.toInt ≤ 61 := i22_1
            have hF : Fr τ [11, 79, 80, 81, 82] G G_22 := hF
            have hT : TY D cy base τ G_22 H := hT
            have hS : va_S (RA base) s.heap H locs := hS
            have hl : lv_has ls 10 [(6, .long x22_6), (9, .int x22_9), (8, .int x16_8), (5, .int r_8), (0, .ref a), (1, .int v0), (2, .int v1), (3, .int v2), (4, .int v3)] := hl
            refine lv_iload hx hb dX10_path_104 (lv_at hl 1 rfl) ?_
            refine lv_aload_n hx hb dX10_path_106 rfl (lv_at hl 4 rfl) ?_
            refine pu_calli (runV (As := []) (rest := [.int x22_9]) ⟨hx, hb, hml, hown, hts⟩ (t_X10_lastDay l D cy base τ G_22 a h_a q_17 hq_17 ((hF.r h_a (by decide) rfl _).trans eq_17) z_18 (ez_18.trans (hF.i hq_17 (by decide) rfl _).symm) ⟨by omega, by omega⟩) sV_X10_278 hK (t_recv cf_11 hK hT h_a) ⟨Nat.le_trans hZ hS.1, hT⟩ ⟨Nat.le_of_ble_eq_true rfl, Nat.le_of_ble_eq_true rfl⟩ rfl hl.1 rfl (Nat.le_of_ble_eq_true rfl) dX10_path_107 ⟨Nat.le_of_ble_eq_true rfl, Nat.le_of_ble_eq_true rfl⟩) (fun r_23 hr_23 => ?_)
            have er_23 := hr_23
            have er_23 := er_23.symm
            subst er_23
            refine W.eq (g2 := F0 m 110 ls [.int z_18, .int x22_9]) rfl ?_
            refine lv_icmp_gt (tgt := 174) hx hb dX10_path_110 (by decide) (fun c_24 => ?_) (fun c_24 => ?_)
            · skip
              have tc_24 : z_18.toInt < x22_9.toInt := (fa_lt _ _).mp c_24
              obtain ⟨z_25, ez_25⟩ : ∃ y : Int32, y = x16_8 + 1 := ⟨_, rfl⟩
              have tz_25 : z_25.toInt = x16_8.toInt + 1 := add_t ez_25 (show -2147483648 ≤ x16_8.toInt + 1 by omega) (show x16_8.toInt + 1 < 2147483648 by omega)
              refine lv_iinc (v := z_25) (lv' := [(8, .int z_25), (6, .long x22_6), (9, .int x22_9), (5, .int r_8), (0, .ref a), (1, .int v0), (2, .int v1), (3, .int v2), (4, .int v3)]) hx hb dX10_path_174 hl (k := 2) rfl (by rw [ez_25]; rfl) (by decide) rfl (fun ls hl => ?_)
              refine lv_goto (tgt := 92) hx hb dX10_path_177 (by decide) ?_
              exact ih16 (x22_6, z_25, G_22) _ _ _ (by show (61 - z_25.toInt).toNat < (61 - x16_8.toInt).toNat; omega) ⟨(by show 0 ≤ z_25.toInt; omega), (by show z_25.toInt ≤ 61; omega), hF, hT, hS, lv_sub hl [1, 0, 3, 4, 5, 6, 7, 8] rfl⟩
            · skip
              have tc_24 : ¬ z_18.toInt < x22_9.toInt := fun h => c_24 ((fa_lt _ _).mpr h)
              refine lv_lload hx hb dX10_path_113 (lv_at hl 0 rfl) ?_
              refine lv_aload_n hx hb dX10_path_115 rfl (lv_at hl 4 rfl) ?_
              refine lv_iload hx hb dX10_path_116 (lv_at hl 2 rfl) ?_
              refine lv_iload hx hb dX10_path_118 (lv_at hl 1 rfl) ?_
              refine pu_calll (runV (As := [.int x16_8, .int x22_9]) (rest := [.long x22_6]) ⟨hx, hb, hml, hown, hts⟩ (t_X10_two l D cy base τ G_22 a h_a x16_8 ⟨by omega, by omega⟩ x22_9 ⟨by omega, by omega⟩) sV_X10_330 hK (t_recv cf_11 hK hT h_a) ⟨Nat.le_trans hZ hS.1, hT⟩ ⟨Nat.le_of_ble_eq_true rfl, Nat.le_of_ble_eq_true rfl⟩ rfl hl.1 rfl (Nat.le_of_ble_eq_true rfl) dX10_path_120 ⟨Nat.le_of_ble_eq_true rfl, Nat.le_of_ble_eq_true rfl⟩) (fun r_26 hr_26 => ?_)
              refine lv_aload_n hx hb dX10_path_123 rfl (lv_at hl 4 rfl) ?_
              refine lv_iload_n hx hb dX10_path_124 rfl (lv_at hl 7 rfl) ?_
              refine lv_iload hx hb dX10_path_125 (lv_at hl 2 rfl) ?_
              refine lv_if_ne (tgt := 134) hx hb dX10_path_127 (by decide) (fun c_27 => ?_) (fun c_27 => ?_)
              · skip
                have tc_27 : ¬ x16_8.toInt = 0 := fun h => c_27 ((fa_eq _ _).mpr h)
                refine lv_aload_n hx hb dX10_path_134 rfl (lv_at hl 4 rfl) ?_
                refine lv_iload_n hx hb dX10_path_135 rfl (lv_at hl 5 rfl) ?_
                refine lv_iload_n hx hb dX10_path_136 rfl (lv_at hl 7 rfl) ?_
                refine pu_calli (runV (As := [.int v0, .int v2]) (rest := [.int v2, .ref a, .long r_26, .long x22_6]) ⟨hx, hb, hml, hown, hts⟩ (t_X10_wantOf l D cy base τ G_22 a h_a v0 ⟨by omega, by omega⟩ v2 ⟨by omega, by omega⟩) sV_X10_347 hK (t_recv cf_11 hK hT h_a) ⟨Nat.le_trans hZ hS.1, hT⟩ ⟨Nat.le_of_ble_eq_true rfl, Nat.le_of_ble_eq_true rfl⟩ rfl hl.1 rfl (Nat.le_of_ble_eq_true rfl) dX10_path_137 ⟨Nat.le_of_ble_eq_true rfl, Nat.le_of_ble_eq_true rfl⟩) (fun r_28 hr_28 => ?_)
                obtain ⟨hr_28_lo, hr_28_hi⟩ := hr_28
                have hr_28_lo : 0 ≤ r_28.toInt := hr_28_lo
                have hr_28_hi : r_28.toInt ≤ 9 := hr_28_hi
                refine lv_aload_n hx hb dX10_path_140 rfl (lv_at hl 4 rfl) ?_
                refine pu_calli (runV (As := []) (rest := [.int r_28, .int v2, .ref a, .long r_26, .long x22_6]) ⟨hx, hb, hml, hown, hts⟩ (t_X10_lastDay l D cy base τ G_22 a h_a q_17 hq_17 ((hF.r h_a (by decide) rfl _).trans eq_17) z_18 (ez_18.trans (hF.i hq_17 (by decide) rfl _).symm) ⟨by omega, by omega⟩) sV_X10_278 hK (t_recv cf_11 hK hT h_a) ⟨Nat.le_trans hZ hS.1, hT⟩ ⟨Nat.le_of_ble_eq_true rfl, Nat.le_of_ble_eq_true rfl⟩ rfl hl.1 rfl (Nat.le_of_ble_eq_true rfl) dX10_path_141 ⟨Nat.le_of_ble_eq_true rfl, Nat.le_of_ble_eq_true rfl⟩) (fun r_29 hr_29 => ?_)
                have er_29 := hr_29
                have er_29 := er_29.symm
                subst er_29
                refine W.eq (g2 := F0 m 144 ls [.int z_18, .int r_28, .int v2, .ref a, .long r_26, .long x22_6]) rfl ?_
                refine lv_iload hx hb dX10_path_144 (lv_at hl 2 rfl) ?_
                refine lv_isub hx hb dX10_path_146 ?_
                refine lv_topi (fun z_30 ez_30 => ?_)
                have tz_30 : z_30.toInt = z_18.toInt - x16_8.toInt := sub_t ez_30 (show -2147483648 ≤ z_18.toInt - x16_8.toInt by omega) (show z_18.toInt - x16_8.toInt < 2147483648 by omega)
                refine lv_aload_n hx hb dX10_path_147 rfl (lv_at hl 4 rfl) ?_
                refine lv_iload hx hb dX10_path_148 (lv_at hl 3 rfl) ?_
                refine lv_iload hx hb dX10_path_150 (lv_at hl 2 rfl) ?_
                refine lv_iload hx hb dX10_path_152 (lv_at hl 1 rfl) ?_
                refine pu_calli (runV (As := [.int r_8, .int x16_8, .int x22_9]) (rest := [.int z_30, .int r_28, .int v2, .ref a, .long r_26, .long x22_6]) ⟨hx, hb, hml, hown, hts⟩ (t_X10_fedBy l D cy base τ G_22 a h_a r_8 x16_8 x22_9) sV_X10_438 hK (t_recv cf_11 hK hT h_a) ⟨Nat.le_trans hZ hS.1, hT⟩ ⟨Nat.le_of_ble_eq_true rfl, Nat.le_of_ble_eq_true rfl⟩ rfl hl.1 rfl (Nat.le_of_ble_eq_true rfl) dX10_path_154 ⟨Nat.le_of_ble_eq_true rfl, Nat.le_of_ble_eq_true rfl⟩) (fun r_31 hr_31 => ?_)
                refine lv_isub hx hb dX10_path_157 ?_
                refine lv_topi (fun z_32 ez_32 => ?_)
                refine lv_imul hx hb dX10_path_158 ?_
                refine lv_topi (fun z_33 ez_33 => ?_)
                refine lv_iload hx hb dX10_path_159 (lv_at hl 8 rfl) ?_
                refine pu_calll (runV (As := [.int v2, .int z_33, .int v3]) (rest := [.long r_26, .long x22_6]) ⟨hx, hb, hml, hown, hts⟩ (t_X10_outcome l D cy base τ G_22 a h_a v2 ⟨by omega, by omega⟩ z_33 v3) sV_X10_366 hK (t_recv cf_11 hK hT h_a) ⟨Nat.le_trans hZ hS.1, hT⟩ ⟨Nat.le_of_ble_eq_true rfl, Nat.le_of_ble_eq_true rfl⟩ rfl hl.1 rfl (Nat.le_of_ble_eq_true rfl) dX10_path_161 ⟨Nat.le_of_ble_eq_true rfl, Nat.le_of_ble_eq_true rfl⟩) (fun r_34 hr_34 => ?_)
                refine lv_lmul hx hb dX10_path_164 ?_
                refine lv_topl (fun z_35 ez_35 => ?_)
                refine lv_ladd hx hb dX10_path_165 ?_
                refine lv_topl (fun z_36 ez_36 => ?_)
                refine lv_lstore (lv' := [(6, .long z_36), (9, .int x22_9), (8, .int x16_8), (5, .int r_8), (0, .ref a), (1, .int v0), (2, .int v1), (3, .int v2), (4, .int v3)]) hx hb dX10_path_166 hl (by decide) rfl (fun ls hl => ?_)
                obtain ⟨z_37, ez_37⟩ : ∃ y : Int32, y = x22_9 + 1 := ⟨_, rfl⟩
                have tz_37 : z_37.toInt = x22_9.toInt + 1 := add_t ez_37 (show -2147483648 ≤ x22_9.toInt + 1 by omega) (show x22_9.toInt + 1 < 2147483648 by omega)
                refine lv_iinc (v := z_37) (lv' := [(9, .int z_37), (6, .long z_36), (8, .int x16_8), (5, .int r_8), (0, .ref a), (1, .int v0), (2, .int v1), (3, .int v2), (4, .int v3)]) hx hb dX10_path_168 hl (k := 1) rfl (by rw [ez_37]; rfl) (by decide) rfl (fun ls hl => ?_)
                refine lv_goto (tgt := 104) hx hb dX10_path_171 (by decide) ?_
                exact ih22 (z_36, z_37, G_22) _ _ _ (by show (61 - z_37.toInt).toNat < (61 - x22_9.toInt).toNat; omega) ⟨(by show 0 ≤ z_37.toInt; omega), (by show z_37.toInt ≤ 61; omega), hF, hT, hS, lv_sub hl [1, 0, 2, 3, 4, 5, 6, 7, 8] rfl⟩
              · skip
                have tc_27 : x16_8.toInt = 0 := (fa_eq _ _).mp c_27
                refine lv_iconst (v := 0) hx hb dX10_path_130 (by decide) ?_
                refine lv_goto (tgt := 159) hx hb dX10_path_131 (by decide) ?_
                refine lv_iload hx hb dX10_path_159 (lv_at hl 8 rfl) ?_
                refine pu_calll (runV (As := [.int v2, .int 0, .int v3]) (rest := [.long r_26, .long x22_6]) ⟨hx, hb, hml, hown, hts⟩ (t_X10_outcome l D cy base τ G_22 a h_a v2 ⟨by omega, by omega⟩ 0 v3) sV_X10_366 hK (t_recv cf_11 hK hT h_a) ⟨Nat.le_trans hZ hS.1, hT⟩ ⟨Nat.le_of_ble_eq_true rfl, Nat.le_of_ble_eq_true rfl⟩ rfl hl.1 rfl (Nat.le_of_ble_eq_true rfl) dX10_path_161 ⟨Nat.le_of_ble_eq_true rfl, Nat.le_of_ble_eq_true rfl⟩) (fun r_38 hr_38 => ?_)
                refine lv_lmul hx hb dX10_path_164 ?_
                refine lv_topl (fun z_39 ez_39 => ?_)
                refine lv_ladd hx hb dX10_path_165 ?_
                refine lv_topl (fun z_40 ez_40 => ?_)
                refine lv_lstore (lv' := [(6, .long z_40), (9, .int x22_9), (8, .int x16_8), (5, .int r_8), (0, .ref a), (1, .int v0), (2, .int v1), (3, .int v2), (4, .int v3)]) hx hb dX10_path_166 hl (by decide) rfl (fun ls hl => ?_)
                obtain ⟨z_41, ez_41⟩ : ∃ y : Int32, y = x22_9 + 1 := ⟨_, rfl⟩
                have tz_41 : z_41.toInt = x22_9.toInt + 1 := add_t ez_41 (show -2147483648 ≤ x22_9.toInt + 1 by omega) (show x22_9.toInt + 1 < 2147483648 by omega)
                refine lv_iinc (v := z_41) (lv' := [(9, .int z_41), (6, .long z_40), (8, .int x16_8), (5, .int r_8), (0, .ref a), (1, .int v0), (2, .int v1), (3, .int v2), (4, .int v3)]) hx hb dX10_path_168 hl (k := 1) rfl (by rw [ez_41]; rfl) (by decide) rfl (fun ls hl => ?_)
                refine lv_goto (tgt := 104) hx hb dX10_path_171 (by decide) ?_
                exact ih22 (z_40, z_41, G_22) _ _ _ (by show (61 - z_41.toInt).toNat < (61 - x22_9.toInt).toNat; omega) ⟨(by show 0 ≤ z_41.toInt; omega), (by show z_41.toInt ≤ 61; omega), hF, hT, hS, lv_sub hl [1, 0, 2, 3, 4, 5, 6, 7, 8] rfl⟩
        · skip
          have tc_9 : r_8.toInt = -1 := (fa_eq _ _).mp c_9
          refine lv_aload_n hx hb dX10_path_49 rfl (lv_at hl 1 rfl) ?_
          refine lv_iload_n hx hb dX10_path_50 rfl (lv_at hl 2 rfl) ?_
          refine t_callv (runV (As := [.int v0]) (rest := []) ⟨hx, hb, hml, hown, hts⟩ (t_X10_splits l D cy base τ G_1 a h_a v0 ⟨by omega, by omega⟩) sV_X10_302 hK (t_recv cf_11 hK hT h_a) ⟨Nat.le_trans hZ hS.1, hT⟩ ⟨Nat.le_of_ble_eq_true rfl, Nat.le_of_ble_eq_true rfl⟩ rfl hl.1 rfl (Nat.le_of_ble_eq_true rfl) dX10_path_51 ⟨Nat.le_of_ble_eq_true rfl, Nat.le_of_ble_eq_true rfl⟩) hS (fun G_42 H locs hF_42 hr_42 hT hS => ?_)
          have hF := hF.tr hF_42 rfl
          refine lv_aload_n hx hb dX10_path_54 rfl (lv_at hl 1 rfl) ?_
          refine lv_iload_n hx hb dX10_path_55 rfl (lv_at hl 2 rfl) ?_
          refine lv_iload_n hx hb dX10_path_56 rfl (lv_at hl 4 rfl) ?_
          refine lv_iload hx hb dX10_path_57 (lv_at hl 5 rfl) ?_
          refine pu_calll (runV (As := [.int v0, .int v2, .int v3]) (rest := []) ⟨hx, hb, hml, hown, hts⟩ (t_X10_costOf l D cy base τ G_42 a h_a v0 ⟨by omega, by omega⟩ v2 ⟨by omega, by omega⟩ v3) sV_X10_378 hK (t_recv cf_11 hK hT h_a) ⟨Nat.le_trans hZ hS.1, hT⟩ ⟨Nat.le_of_ble_eq_true rfl, Nat.le_of_ble_eq_true rfl⟩ rfl hl.1 rfl (Nat.le_of_ble_eq_true rfl) dX10_path_59 ⟨Nat.le_of_ble_eq_true rfl, Nat.le_of_ble_eq_true rfl⟩) (fun r_43 hr_43 => ?_)
          refine lv_ldc2 (v := 1000000000) hx hb hown (hts _ kl_X10_345) dX10_path_62 ?_
          refine lv_ldiv hx hb dX10_path_65 (by decide) ?_
          refine lv_topl (fun z_44 ez_44 => ?_)
          exact ret_l hx hb hr hlocks ⟨⟨hS.1, hS.2.1⟩, G_42, hF, ⟨_, rfl, trivial⟩, hT⟩ hS.2.2 (Nat.le_of_ble_eq_true rfl) (Nat.le_of_ble_eq_true rfl) dX10_path_66
      · skip
        have er_6 := hr_6_1
        subst er_6
        refine W.eq (g2 := F0 m 28 ls [.int 0]) rfl ?_
        refine lv_if_ne (tgt := 35) hx hb dX10_path_28 (by decide) (fun c_45 => absurd rfl c_45) (fun _ => ?_)
        refine lv_ldc2 (v := (-2)) hx hb hown (hts _ kl_X10_300) dX10_path_31 ?_
        exact ret_l hx hb hr hlocks ⟨⟨hS.1, hS.2.1⟩, G_1, hF, ⟨_, rfl, trivial⟩, hT⟩ hS.2.2 (Nat.le_of_ble_eq_true rfl) (Nat.le_of_ble_eq_true rfl) dX10_path_34
    · skip
      have er_4 := hr_4_1
      subst er_4
      refine W.eq (g2 := F0 m 19 ls [.int 0]) rfl ?_
      refine lv_if_eq (tgt := 31) hx hb dX10_path_19 (by decide) (fun _ => ?_) (fun c_46 => absurd (by decide) c_46)
      refine lv_ldc2 (v := (-2)) hx hb hown (hts _ kl_X10_300) dX10_path_31 ?_
      exact ret_l hx hb hr hlocks ⟨⟨hS.1, hS.2.1⟩, G_1, hF, ⟨_, rfl, trivial⟩, hT⟩ hS.2.2 (Nat.le_of_ble_eq_true rfl) (Nat.le_of_ble_eq_true rfl) dX10_path_34
  · skip
    have er_2 := hr_2_1
    subst er_2
    refine W.eq (g2 := F0 m 11 ls [.int 0]) rfl ?_
    refine lv_if_eq (tgt := 31) hx hb dX10_path_11 (by decide) (fun _ => ?_) (fun c_47 => absurd (by decide) c_47)
    refine lv_ldc2 (v := (-2)) hx hb hown (hts _ kl_X10_300) dX10_path_31 ?_
    exact ret_l hx hb hr hlocks ⟨⟨hS.1, hS.2.1⟩, G_1, hF, ⟨_, rfl, trivial⟩, hT⟩ hS.2.2 (Nat.le_of_ble_eq_true rfl) (Nat.le_of_ble_eq_true rfl) dX10_path_34
set_option maxHeartbeats 4000000 in
set_option maxRecDepth 100000 in
theorem t_X10_fed (l : Launch) (D : va_G) (cy : Nat → ClassId) (base : Nat) (τ : Nat → Nat) (G : Gh) (a : Nat) (h_a : τ a = 11) (v0 : Int32) (v1 : Int32) : MM l yX10_fed cX10_fed 8 (some .int) 4 0 0 D cy [.ref a, .int v0, .int v1] (PT D cy base τ G) (QT D cy base τ G [11, 80, 81, 82] (fun v g => ∃ r : Int32, v = some (.int r) ∧ (True))) (RA base) := by
  refine MM.of (by decide) (Nat.le_of_ble_eq_true rfl) ?_
  intro p e s m below meth c C hPT ls hl
  obtain ⟨hx, hb, hr, hml, hown, hts, hlocks, hK, hnm⟩ := C
  obtain ⟨hZ, hT⟩ := hPT
  have hS : va_S (RA base) s.heap s.heap [] := va_S.rf
  have hF : Fr τ [11, 80, 81, 82] G G := Fr.rf
  have hl : lv_has ls 8 [(0, .ref a), (1, .int v0), (2, .int v1)] := hl
  refine lv_aload_n hx hb dX10_fed_0 rfl (lv_at hl 0 rfl) ?_
  refine lv_iconst (v := 0) hx hb dX10_fed_1 (by decide) ?_
  refine t_puti (x := 0) cf_11 hx hb hts hown hK hT hS h_a (k := 0) rfl trivial fl_X10_111 (fun _ h9 => h9) rfl rfl rfl dX10_fed_2 (fun H locs G_1 eG_1 hT hS => ?_)
  have hF := hF.wI eG_1 h_a rfl
  refine lv_aload_n hx hb dX10_fed_5 rfl (lv_at hl 0 rfl) ?_
  refine lv_iload_n hx hb dX10_fed_6 rfl (lv_at hl 1 rfl) ?_
  refine lv_iload_n hx hb dX10_fed_7 rfl (lv_at hl 2 rfl) ?_
  refine pu_calli (runV (As := [.int v0, .int v1]) (rest := []) ⟨hx, hb, hml, hown, hts⟩ (t_X10_areTwo l D cy base τ G_1 a h_a v0 v1) sV_X10_323 hK (t_recv cf_11 hK hT h_a) ⟨Nat.le_trans hZ hS.1, hT⟩ ⟨Nat.le_of_ble_eq_true rfl, Nat.le_of_ble_eq_true rfl⟩ rfl hl.1 rfl (Nat.le_of_ble_eq_true rfl) dX10_fed_8 ⟨Nat.le_of_ble_eq_true rfl, Nat.le_of_ble_eq_true rfl⟩) (fun r_2 hr_2 => ?_)
  have hr_2_c := hr_2
  rcases hr_2_c with hr_2_0 | hr_2_1
  · skip
    obtain ⟨er_2, hr_2_0_f0, hr_2_0_f1, hr_2_0_f2, hr_2_0_f3⟩ := hr_2_0
    have hr_2_0_f0 : 0 ≤ v0.toInt := hr_2_0_f0
    have hr_2_0_f1 : v0.toInt ≤ 5 := hr_2_0_f1
    have hr_2_0_f2 : 0 ≤ v1.toInt := hr_2_0_f2
    have hr_2_0_f3 : v1.toInt ≤ 5 := hr_2_0_f3
    subst er_2
    refine W.eq (g2 := F0 m 11 ls [.int 1]) rfl ?_
    refine lv_if_ne (tgt := 17) hx hb dX10_fed_11 (by decide) (fun _ => ?_) (fun c_3 => absurd c_3 (by decide))
    refine lv_aload_n hx hb dX10_fed_17 rfl (lv_at hl 0 rfl) ?_
    refine lv_iload_n hx hb dX10_fed_18 rfl (lv_at hl 1 rfl) ?_
    refine lv_iload_n hx hb dX10_fed_19 rfl (lv_at hl 2 rfl) ?_
    refine pu_calli (runV (As := [.int v0, .int v1]) (rest := []) ⟨hx, hb, hml, hown, hts⟩ (t_X10_pathOf l D cy base τ G_1 a h_a v0 v1) sV_X10_435 hK (t_recv cf_11 hK hT h_a) ⟨Nat.le_trans hZ hS.1, hT⟩ ⟨Nat.le_of_ble_eq_true rfl, Nat.le_of_ble_eq_true rfl⟩ rfl hl.1 rfl (Nat.le_of_ble_eq_true rfl) dX10_fed_20 ⟨Nat.le_of_ble_eq_true rfl, Nat.le_of_ble_eq_true rfl⟩) (fun r_4 hr_4 => ?_)
    refine lv_istore_n (lv' := [(3, .int r_4), (0, .ref a), (1, .int v0), (2, .int v1)]) hx hb dX10_fed_23 rfl hl (by decide) rfl (fun ls hl => ?_)
    refine lv_iload_n hx hb dX10_fed_24 rfl (lv_at hl 0 rfl) ?_
    refine lv_iconst (v := (-1)) hx hb dX10_fed_25 (by decide) ?_
    refine lv_icmp_ne (tgt := 31) hx hb dX10_fed_26 (by decide) (fun c_5 => ?_) (fun c_5 => ?_)
    · skip
      have tc_5 : ¬ r_4.toInt = -1 := fun h => c_5 ((fa_eq _ _).mpr h)
      refine lv_aload_n hx hb dX10_fed_31 rfl (lv_at hl 1 rfl) ?_
      refine lv_iload_n hx hb dX10_fed_32 rfl (lv_at hl 2 rfl) ?_
      refine lv_iload_n hx hb dX10_fed_33 rfl (lv_at hl 3 rfl) ?_
      refine t_callv (runV (As := [.int v0, .int v1]) (rest := []) ⟨hx, hb, hml, hown, hts⟩ (t_X10_splitsTwo l D cy base τ G_1 a h_a v0 ⟨by omega, by omega⟩ v1 ⟨by omega, by omega⟩) sV_X10_327 hK (t_recv cf_11 hK hT h_a) ⟨Nat.le_trans hZ hS.1, hT⟩ ⟨Nat.le_of_ble_eq_true rfl, Nat.le_of_ble_eq_true rfl⟩ rfl hl.1 rfl (Nat.le_of_ble_eq_true rfl) dX10_fed_34 ⟨Nat.le_of_ble_eq_true rfl, Nat.le_of_ble_eq_true rfl⟩) hS (fun G_6 H locs hF_6 hr_6 hT hS => ?_)
      have hF := hF.tr hF_6 rfl
      refine lv_lconst (v := 0) hx hb dX10_fed_37 (by decide) ?_
      refine lv_lstore (lv' := [(4, .long 0), (3, .int r_4), (0, .ref a), (1, .int v0), (2, .int v1)]) hx hb dX10_fed_38 hl (by decide) rfl (fun ls hl => ?_)
      refine lv_iconst (v := 0) hx hb dX10_fed_40 (by decide) ?_
      refine lv_istore (lv' := [(6, .int 0), (4, .long 0), (3, .int r_4), (0, .ref a), (1, .int v0), (2, .int v1)]) hx hb dX10_fed_41 hl (by decide) rfl (fun ls hl => ?_)
      refine W.loop (σ := Int64 × Int32 × Gh) (fun w7 H locs ls => 0 ≤ w7.2.1.toInt ∧ w7.2.1.toInt ≤ 61 ∧ Fr τ [11, 80, 81, 82] G w7.2.2 ∧ TY D cy base τ w7.2.2 H ∧ va_S (RA base) s.heap H locs ∧ lv_has ls 8 [(4, .long w7.1), (6, .int w7.2.1), (3, .int r_4), (0, .ref a), (1, .int v0), (2, .int v1)]) (fun w7 => (61 - w7.2.1.toInt).toNat) ?_ ((0 : Int64), (0 : Int32), G_6) _ _ _ ⟨(by show 0 ≤ (0 : Int32).toInt; decide), (by show (0 : Int32).toInt ≤ 61; decide), hF, hT, hS, lv_sub hl [1, 0, 2, 3, 4, 5] rfl⟩
      intro w7 H locs ls hI ih7
      obtain ⟨x7_4, x7_6, G_7⟩ := w7
      obtain ⟨i7_0, i7_1, hF, hT, hS, hl⟩ := hI
      have i7_0 : 0 ≤ x7_6.toInt := i7_0
      have i7_1 : x7_6.toInt ≤ 61 := i7_1
      have hF : Fr τ [11, 80, 81, 82] G G_7 := hF
      have hT : TY D cy base τ G_7 H := hT
      have hS : va_S (RA base) s.heap H locs := hS
      have hl : lv_has ls 8 [(4, .long x7_4), (6, .int x7_6), (3, .int r_4), (0, .ref a), (1, .int v0), (2, .int v1)] := hl
      refine lv_iload hx hb dX10_fed_43 (lv_at hl 1 rfl) ?_
      refine lv_aload_n hx hb dX10_fed_45 rfl (lv_at hl 3 rfl) ?_
      obtain ⟨q_8, eq_8, hq_8⟩ := (show ∃ q, G_7.2.2.1 a 17 = some q ∧ τ q = 67 from hT.rgr h_a (by decide) 17)
      have eq_8 := (hF.r h_a (by decide) rfl _).symm.trans eq_8
      obtain ⟨z_9, ez_9⟩ : ∃ y : Int32, y = G_7.1 q_8 0 := ⟨_, rfl⟩
      have qz_9 : (0 % 4 = 0 → 0 ≤ z_9.toInt ∧ z_9.toInt ≤ 60) := by rw [ez_9]; exact hT.rgi hq_8 (by decide) 0
      have rz_9 : 0 ≤ z_9.toInt ∧ z_9.toInt ≤ 60 := by omega
      have ez_9 : z_9 = G.1 q_8 0 := ez_9.trans (hF.i hq_8 (by decide) rfl _)
      refine pu_calli (runV (As := []) (rest := [.int x7_6]) ⟨hx, hb, hml, hown, hts⟩ (t_X10_lastDay l D cy base τ G_7 a h_a q_8 hq_8 ((hF.r h_a (by decide) rfl _).trans eq_8) z_9 (ez_9.trans (hF.i hq_8 (by decide) rfl _).symm) ⟨by omega, by omega⟩) sV_X10_278 hK (t_recv cf_11 hK hT h_a) ⟨Nat.le_trans hZ hS.1, hT⟩ ⟨Nat.le_of_ble_eq_true rfl, Nat.le_of_ble_eq_true rfl⟩ rfl hl.1 rfl (Nat.le_of_ble_eq_true rfl) dX10_fed_46 ⟨Nat.le_of_ble_eq_true rfl, Nat.le_of_ble_eq_true rfl⟩) (fun r_10 hr_10 => ?_)
      have er_10 := hr_10
      have er_10 := er_10.symm
      subst er_10
      refine W.eq (g2 := F0 m 49 ls [.int z_9, .int x7_6]) rfl ?_
      refine lv_icmp_gt (tgt := 100) hx hb dX10_fed_49 (by decide) (fun c_11 => ?_) (fun c_11 => ?_)
      · skip
        have tc_11 : z_9.toInt < x7_6.toInt := (fa_lt _ _).mp c_11
        refine lv_lload hx hb dX10_fed_100 (lv_at hl 0 rfl) ?_
        refine lv_ldc2 (v := 10000000000) hx hb hown (hts _ kl_X10_441) dX10_fed_102 ?_
        refine lv_ldiv hx hb dX10_fed_105 (by decide) ?_
        refine lv_topl (fun z_12 ez_12 => ?_)
        refine lv_l2i hx hb dX10_fed_106 rfl ?_
        refine lv_topi (fun z_13 ez_13 => ?_)
        exact ret_i hx hb hr hlocks ⟨⟨hS.1, hS.2.1⟩, G_7, hF, ⟨_, rfl, trivial⟩, hT⟩ hS.2.2 (Nat.le_of_ble_eq_true rfl) (Nat.le_of_ble_eq_true rfl) dX10_fed_107
      · skip
        have tc_11 : ¬ z_9.toInt < x7_6.toInt := fun h => c_11 ((fa_lt _ _).mpr h)
        refine lv_iconst (v := 0) hx hb dX10_fed_52 (by decide) ?_
        refine lv_istore (lv' := [(7, .int 0), (4, .long x7_4), (6, .int x7_6), (3, .int r_4), (0, .ref a), (1, .int v0), (2, .int v1)]) hx hb dX10_fed_53 hl (by decide) rfl (fun ls hl => ?_)
        refine W.loop (σ := Int64 × Int32 × Gh) (fun w14 H locs ls => 0 ≤ w14.2.1.toInt ∧ w14.2.1.toInt ≤ 61 ∧ Fr τ [11, 80, 81, 82] G w14.2.2 ∧ TY D cy base τ w14.2.2 H ∧ va_S (RA base) s.heap H locs ∧ lv_has ls 8 [(4, .long w14.1), (7, .int w14.2.1), (6, .int x7_6), (3, .int r_4), (0, .ref a), (1, .int v0), (2, .int v1)]) (fun w14 => (61 - w14.2.1.toInt).toNat) ?_ (x7_4, (0 : Int32), G_7) _ _ _ ⟨(by show 0 ≤ (0 : Int32).toInt; decide), (by show (0 : Int32).toInt ≤ 61; decide), hF, hT, hS, lv_sub hl [1, 0, 2, 3, 4, 5, 6] rfl⟩
        intro w14 H locs ls hI ih14
        obtain ⟨x14_4, x14_7, G_14⟩ := w14
        obtain ⟨i14_0, i14_1, hF, hT, hS, hl⟩ := hI
        have i14_0 : 0 ≤ x14_7.toInt := i14_0
        have i14_1 : x14_7.toInt ≤ 61 := i14_1
        have hF : Fr τ [11, 80, 81, 82] G G_14 := hF
        have hT : TY D cy base τ G_14 H := hT
        have hS : va_S (RA base) s.heap H locs := hS
        have hl : lv_has ls 8 [(4, .long x14_4), (7, .int x14_7), (6, .int x7_6), (3, .int r_4), (0, .ref a), (1, .int v0), (2, .int v1)] := hl
        refine lv_iload hx hb dX10_fed_55 (lv_at hl 1 rfl) ?_
        refine lv_aload_n hx hb dX10_fed_57 rfl (lv_at hl 4 rfl) ?_
        refine pu_calli (runV (As := []) (rest := [.int x14_7]) ⟨hx, hb, hml, hown, hts⟩ (t_X10_lastDay l D cy base τ G_14 a h_a q_8 hq_8 ((hF.r h_a (by decide) rfl _).trans eq_8) z_9 (ez_9.trans (hF.i hq_8 (by decide) rfl _).symm) ⟨by omega, by omega⟩) sV_X10_278 hK (t_recv cf_11 hK hT h_a) ⟨Nat.le_trans hZ hS.1, hT⟩ ⟨Nat.le_of_ble_eq_true rfl, Nat.le_of_ble_eq_true rfl⟩ rfl hl.1 rfl (Nat.le_of_ble_eq_true rfl) dX10_fed_58 ⟨Nat.le_of_ble_eq_true rfl, Nat.le_of_ble_eq_true rfl⟩) (fun r_15 hr_15 => ?_)
        have er_15 := hr_15
        have er_15 := er_15.symm
        subst er_15
        refine W.eq (g2 := F0 m 61 ls [.int z_9, .int x14_7]) rfl ?_
        refine lv_icmp_gt (tgt := 94) hx hb dX10_fed_61 (by decide) (fun c_16 => ?_) (fun c_16 => ?_)
        · skip
          have tc_16 : z_9.toInt < x14_7.toInt := (fa_lt _ _).mp c_16
          obtain ⟨z_17, ez_17⟩ : ∃ y : Int32, y = x7_6 + 1 := ⟨_, rfl⟩
          have tz_17 : z_17.toInt = x7_6.toInt + 1 := add_t ez_17 (show -2147483648 ≤ x7_6.toInt + 1 by omega) (show x7_6.toInt + 1 < 2147483648 by omega)
          refine lv_iinc (v := z_17) (lv' := [(6, .int z_17), (4, .long x14_4), (7, .int x14_7), (3, .int r_4), (0, .ref a), (1, .int v0), (2, .int v1)]) hx hb dX10_fed_94 hl (k := 2) rfl (by rw [ez_17]; rfl) (by decide) rfl (fun ls hl => ?_)
          refine lv_goto (tgt := 43) hx hb dX10_fed_97 (by decide) ?_
          exact ih7 (x14_4, z_17, G_14) _ _ _ (by show (61 - z_17.toInt).toNat < (61 - x7_6.toInt).toNat; omega) ⟨(by show 0 ≤ z_17.toInt; omega), (by show z_17.toInt ≤ 61; omega), hF, hT, hS, lv_sub hl [1, 0, 3, 4, 5, 6] rfl⟩
        · skip
          have tc_16 : ¬ z_9.toInt < x14_7.toInt := fun h => c_16 ((fa_lt _ _).mpr h)
          refine lv_lload hx hb dX10_fed_64 (lv_at hl 0 rfl) ?_
          refine lv_aload_n hx hb dX10_fed_66 rfl (lv_at hl 4 rfl) ?_
          refine lv_iload hx hb dX10_fed_67 (lv_at hl 2 rfl) ?_
          refine lv_iload hx hb dX10_fed_69 (lv_at hl 1 rfl) ?_
          refine pu_calll (runV (As := [.int x7_6, .int x14_7]) (rest := [.long x14_4]) ⟨hx, hb, hml, hown, hts⟩ (t_X10_two l D cy base τ G_14 a h_a x7_6 ⟨by omega, by omega⟩ x14_7 ⟨by omega, by omega⟩) sV_X10_330 hK (t_recv cf_11 hK hT h_a) ⟨Nat.le_trans hZ hS.1, hT⟩ ⟨Nat.le_of_ble_eq_true rfl, Nat.le_of_ble_eq_true rfl⟩ rfl hl.1 rfl (Nat.le_of_ble_eq_true rfl) dX10_fed_71 ⟨Nat.le_of_ble_eq_true rfl, Nat.le_of_ble_eq_true rfl⟩) (fun r_18 hr_18 => ?_)
          refine lv_aload_n hx hb dX10_fed_74 rfl (lv_at hl 4 rfl) ?_
          refine lv_iload_n hx hb dX10_fed_75 rfl (lv_at hl 3 rfl) ?_
          refine lv_iload hx hb dX10_fed_76 (lv_at hl 2 rfl) ?_
          refine lv_iload hx hb dX10_fed_78 (lv_at hl 1 rfl) ?_
          refine pu_calli (runV (As := [.int r_4, .int x7_6, .int x14_7]) (rest := [.long r_18, .long x14_4]) ⟨hx, hb, hml, hown, hts⟩ (t_X10_fedBy l D cy base τ G_14 a h_a r_4 x7_6 x14_7) sV_X10_438 hK (t_recv cf_11 hK hT h_a) ⟨Nat.le_trans hZ hS.1, hT⟩ ⟨Nat.le_of_ble_eq_true rfl, Nat.le_of_ble_eq_true rfl⟩ rfl hl.1 rfl (Nat.le_of_ble_eq_true rfl) dX10_fed_80 ⟨Nat.le_of_ble_eq_true rfl, Nat.le_of_ble_eq_true rfl⟩) (fun r_19 hr_19 => ?_)
          refine lv_i2l hx hb dX10_fed_83 rfl ?_
          refine lv_topl (fun z_20 ez_20 => ?_)
          have tz_20 : z_20.toInt = r_19.toInt := by rw [ez_20]; exact wide_t r_19
          have az_20 := min_t r_19
          have bz_20 := max_t r_19
          refine lv_lmul hx hb dX10_fed_84 ?_
          refine lv_topl (fun z_21 ez_21 => ?_)
          refine lv_ladd hx hb dX10_fed_85 ?_
          refine lv_topl (fun z_22 ez_22 => ?_)
          refine lv_lstore (lv' := [(4, .long z_22), (7, .int x14_7), (6, .int x7_6), (3, .int r_4), (0, .ref a), (1, .int v0), (2, .int v1)]) hx hb dX10_fed_86 hl (by decide) rfl (fun ls hl => ?_)
          obtain ⟨z_23, ez_23⟩ : ∃ y : Int32, y = x14_7 + 1 := ⟨_, rfl⟩
          have tz_23 : z_23.toInt = x14_7.toInt + 1 := add_t ez_23 (show -2147483648 ≤ x14_7.toInt + 1 by omega) (show x14_7.toInt + 1 < 2147483648 by omega)
          refine lv_iinc (v := z_23) (lv' := [(7, .int z_23), (4, .long z_22), (6, .int x7_6), (3, .int r_4), (0, .ref a), (1, .int v0), (2, .int v1)]) hx hb dX10_fed_88 hl (k := 1) rfl (by rw [ez_23]; rfl) (by decide) rfl (fun ls hl => ?_)
          refine lv_goto (tgt := 55) hx hb dX10_fed_91 (by decide) ?_
          exact ih14 (z_22, z_23, G_14) _ _ _ (by show (61 - z_23.toInt).toNat < (61 - x14_7.toInt).toNat; omega) ⟨(by show 0 ≤ z_23.toInt; omega), (by show z_23.toInt ≤ 61; omega), hF, hT, hS, lv_sub hl [1, 0, 2, 3, 4, 5, 6] rfl⟩
    · skip
      have tc_5 : r_4.toInt = -1 := (fa_eq _ _).mp c_5
      refine lv_iconst (v := 0) hx hb dX10_fed_29 (by decide) ?_
      exact ret_i hx hb hr hlocks ⟨⟨hS.1, hS.2.1⟩, G_1, hF, ⟨_, rfl, trivial⟩, hT⟩ hS.2.2 (Nat.le_of_ble_eq_true rfl) (Nat.le_of_ble_eq_true rfl) dX10_fed_30
  · skip
    have er_2 := hr_2_1
    subst er_2
    refine W.eq (g2 := F0 m 11 ls [.int 0]) rfl ?_
    refine lv_if_ne (tgt := 17) hx hb dX10_fed_11 (by decide) (fun c_24 => absurd rfl c_24) (fun _ => ?_)
    refine lv_bipush (v := (-2)) hx hb dX10_fed_14 (by decide) ?_
    exact ret_i hx hb hr hlocks ⟨⟨hS.1, hS.2.1⟩, G_1, hF, ⟨_, rfl, trivial⟩, hT⟩ hS.2.2 (Nat.le_of_ble_eq_true rfl) (Nat.le_of_ble_eq_true rfl) dX10_fed_16
