theorem dX10_in_0 : decode cX10_in 0 = .ok (.lload_n 0, 1) := by decide +kernel
theorem dX10_in_1 : decode cX10_in 1 = .ok (.lload_n 2, 1) := by decide +kernel
theorem dX10_in_2 : decode cX10_in 2 = .ok (.lcmp, 1) := by decide +kernel
theorem dX10_in_3 : decode cX10_in 3 = .ok (.ifCond .lt 14, 3) := by decide +kernel
theorem dX10_in_17 : decode cX10_in 17 = .ok (.iconst 0, 1) := by decide +kernel
theorem dX10_in_18 : decode cX10_in 18 = .ok (.ireturn, 1) := by decide +kernel
theorem dX10_in_6 : decode cX10_in 6 = .ok (.lload_n 0, 1) := by decide +kernel
theorem dX10_in_7 : decode cX10_in 7 = .ok (.lload 4, 2) := by decide +kernel
theorem dX10_in_9 : decode cX10_in 9 = .ok (.lcmp, 1) := by decide +kernel
theorem dX10_in_10 : decode cX10_in 10 = .ok (.ifCond .gt 7, 3) := by decide +kernel
theorem dX10_in_13 : decode cX10_in 13 = .ok (.iconst 1, 1) := by decide +kernel
theorem dX10_in_14 : decode cX10_in 14 = .ok (.goto 4, 3) := by decide +kernel
theorem dX10_isSlot_0 : decode cX10_isSlot 0 = .ok (.iload_n 0, 1) := by decide +kernel
theorem dX10_isSlot_1 : decode cX10_isSlot 1 = .ok (.i2l, 1) := by decide +kernel
theorem dX10_isSlot_2 : decode cX10_isSlot 2 = .ok (.lconst 0, 1) := by decide +kernel
theorem dX10_isSlot_3 : decode cX10_isSlot 3 = .ok (.ldc2_w 114, 3) := by decide +kernel
theorem dX10_isSlot_6 : decode cX10_isSlot 6 = .ok (.invokestatic 116, 3) := by decide +kernel
theorem dX10_isSlot_9 : decode cX10_isSlot 9 = .ok (.ireturn, 1) := by decide +kernel
theorem dX10_isSeed_0 : decode cX10_isSeed 0 = .ok (.iload_n 0, 1) := by decide +kernel
theorem dX10_isSeed_1 : decode cX10_isSeed 1 = .ok (.i2l, 1) := by decide +kernel
theorem dX10_isSeed_2 : decode cX10_isSeed 2 = .ok (.lconst 0, 1) := by decide +kernel
theorem dX10_isSeed_3 : decode cX10_isSeed 3 = .ok (.ldc2_w 490, 3) := by decide +kernel
theorem dX10_isSeed_6 : decode cX10_isSeed 6 = .ok (.invokestatic 116, 3) := by decide +kernel
theorem dX10_isSeed_9 : decode cX10_isSeed 9 = .ok (.ireturn, 1) := by decide +kernel
theorem dX10_areSacks_0 : decode cX10_areSacks 0 = .ok (.iload_n 1, 1) := by decide +kernel
theorem dX10_areSacks_1 : decode cX10_areSacks 1 = .ok (.i2l, 1) := by decide +kernel
theorem dX10_areSacks_2 : decode cX10_areSacks 2 = .ok (.lconst 0, 1) := by decide +kernel
theorem dX10_areSacks_3 : decode cX10_areSacks 3 = .ok (.ldc2_w 370, 3) := by decide +kernel
theorem dX10_areSacks_6 : decode cX10_areSacks 6 = .ok (.invokestatic 116, 3) := by decide +kernel
theorem dX10_areSacks_9 : decode cX10_areSacks 9 = .ok (.ireturn, 1) := by decide +kernel
theorem dX10_areHundredths_0 : decode cX10_areHundredths 0 = .ok (.iload_n 0, 1) := by decide +kernel
theorem dX10_areHundredths_1 : decode cX10_areHundredths 1 = .ok (.i2l, 1) := by decide +kernel
theorem dX10_areHundredths_2 : decode cX10_areHundredths 2 = .ok (.lconst 0, 1) := by decide +kernel
theorem dX10_areHundredths_3 : decode cX10_areHundredths 3 = .ok (.ldc2_w 282, 3) := by decide +kernel
theorem dX10_areHundredths_6 : decode cX10_areHundredths 6 = .ok (.invokestatic 116, 3) := by decide +kernel
theorem dX10_areHundredths_9 : decode cX10_areHundredths 9 = .ok (.ireturn, 1) := by decide +kernel
theorem dX10_cut_0 : decode cX10_cut 0 = .ok (.iload_n 2, 1) := by decide +kernel
theorem dX10_cut_1 : decode cX10_cut 1 = .ok (.ifCond .ne 10, 3) := by decide +kernel
theorem dX10_cut_11 : decode cX10_cut 11 = .ok (.iload_n 2, 1) := by decide +kernel
theorem dX10_cut_12 : decode cX10_cut 12 = .ok (.iconst 1, 1) := by decide +kernel
theorem dX10_cut_13 : decode cX10_cut 13 = .ok (.if_icmp .ne 10, 3) := by decide +kernel
theorem dX10_cut_23 : decode cX10_cut 23 = .ok (.iload_n 2, 1) := by decide +kernel
theorem dX10_cut_24 : decode cX10_cut 24 = .ok (.iconst 2, 1) := by decide +kernel
theorem dX10_cut_25 : decode cX10_cut 25 = .ok (.if_icmp .ne 9, 3) := by decide +kernel
theorem dX10_cut_34 : decode cX10_cut 34 = .ok (.lload_n 0, 1) := by decide +kernel
theorem dX10_cut_35 : decode cX10_cut 35 = .ok (.lreturn, 1) := by decide +kernel
theorem dX10_cut_28 : decode cX10_cut 28 = .ok (.lload_n 0, 1) := by decide +kernel
theorem dX10_cut_29 : decode cX10_cut 29 = .ok (.l2i, 1) := by decide +kernel
theorem dX10_cut_30 : decode cX10_cut 30 = .ok (.i2l, 1) := by decide +kernel
theorem dX10_cut_31 : decode cX10_cut 31 = .ok (.goto 4, 3) := by decide +kernel
theorem dX10_cut_16 : decode cX10_cut 16 = .ok (.lload_n 0, 1) := by decide +kernel
theorem dX10_cut_17 : decode cX10_cut 17 = .ok (.l2i, 1) := by decide +kernel
theorem dX10_cut_18 : decode cX10_cut 18 = .ok (.i2s, 1) := by decide +kernel
theorem dX10_cut_19 : decode cX10_cut 19 = .ok (.i2l, 1) := by decide +kernel
theorem dX10_cut_20 : decode cX10_cut 20 = .ok (.goto 15, 3) := by decide +kernel
theorem dX10_cut_4 : decode cX10_cut 4 = .ok (.lload_n 0, 1) := by decide +kernel
theorem dX10_cut_5 : decode cX10_cut 5 = .ok (.l2i, 1) := by decide +kernel
theorem dX10_cut_6 : decode cX10_cut 6 = .ok (.i2b, 1) := by decide +kernel
theorem dX10_cut_7 : decode cX10_cut 7 = .ok (.i2l, 1) := by decide +kernel
theorem dX10_cut_8 : decode cX10_cut 8 = .ok (.goto 27, 3) := by decide +kernel
theorem dX10_lastDay_0 : decode cX10_lastDay 0 = .ok (.aload_n 0, 1) := by decide +kernel
theorem dX10_lastDay_1 : decode cX10_lastDay 1 = .ok (.getfield 34, 3) := by decide +kernel
theorem dX10_lastDay_4 : decode cX10_lastDay 4 = .ok (.iconst 0, 1) := by decide +kernel
theorem dX10_lastDay_5 : decode cX10_lastDay 5 = .ok (.iaload, 1) := by decide +kernel
theorem dX10_lastDay_6 : decode cX10_lastDay 6 = .ok (.ireturn, 1) := by decide +kernel
theorem dX10_isDay_0 : decode cX10_isDay 0 = .ok (.iload_n 1, 1) := by decide +kernel
theorem dX10_isDay_1 : decode cX10_isDay 1 = .ok (.i2l, 1) := by decide +kernel
theorem dX10_isDay_2 : decode cX10_isDay 2 = .ok (.lconst 1, 1) := by decide +kernel
theorem dX10_isDay_3 : decode cX10_isDay 3 = .ok (.aload_n 0, 1) := by decide +kernel
theorem dX10_isDay_4 : decode cX10_isDay 4 = .ok (.invokevirtual 278, 3) := by decide +kernel
theorem dX10_isDay_7 : decode cX10_isDay 7 = .ok (.i2l, 1) := by decide +kernel
theorem dX10_isDay_8 : decode cX10_isDay 8 = .ok (.invokestatic 116, 3) := by decide +kernel
theorem dX10_isDay_11 : decode cX10_isDay 11 = .ok (.ireturn, 1) := by decide +kernel
theorem dX10_isValley_0 : decode cX10_isValley 0 = .ok (.iload_n 1, 1) := by decide +kernel
theorem dX10_isValley_1 : decode cX10_isValley 1 = .ok (.i2l, 1) := by decide +kernel
theorem dX10_isValley_2 : decode cX10_isValley 2 = .ok (.lconst 0, 1) := by decide +kernel
theorem dX10_isValley_3 : decode cX10_isValley 3 = .ok (.aload_n 0, 1) := by decide +kernel
theorem dX10_isValley_4 : decode cX10_isValley 4 = .ok (.getfield 43, 3) := by decide +kernel
theorem dX10_isValley_7 : decode cX10_isValley 7 = .ok (.iconst 0, 1) := by decide +kernel
theorem dX10_isValley_8 : decode cX10_isValley 8 = .ok (.iaload, 1) := by decide +kernel
theorem dX10_isValley_9 : decode cX10_isValley 9 = .ok (.iconst 1, 1) := by decide +kernel
theorem dX10_isValley_10 : decode cX10_isValley 10 = .ok (.isub, 1) := by decide +kernel
theorem dX10_isValley_11 : decode cX10_isValley 11 = .ok (.i2l, 1) := by decide +kernel
theorem dX10_isValley_12 : decode cX10_isValley 12 = .ok (.invokestatic 116, 3) := by decide +kernel
theorem dX10_isValley_15 : decode cX10_isValley 15 = .ok (.ireturn, 1) := by decide +kernel
theorem dX10_isThing_0 : decode cX10_isThing 0 = .ok (.iload_n 1, 1) := by decide +kernel
theorem dX10_isThing_1 : decode cX10_isThing 1 = .ok (.i2l, 1) := by decide +kernel
theorem dX10_isThing_2 : decode cX10_isThing 2 = .ok (.lconst 0, 1) := by decide +kernel
theorem dX10_isThing_3 : decode cX10_isThing 3 = .ok (.aload_n 0, 1) := by decide +kernel
theorem dX10_isThing_4 : decode cX10_isThing 4 = .ok (.getfield 37, 3) := by decide +kernel
theorem dX10_isThing_7 : decode cX10_isThing 7 = .ok (.iconst 0, 1) := by decide +kernel
theorem dX10_isThing_8 : decode cX10_isThing 8 = .ok (.iaload, 1) := by decide +kernel
theorem dX10_isThing_9 : decode cX10_isThing 9 = .ok (.iconst 1, 1) := by decide +kernel
theorem dX10_isThing_10 : decode cX10_isThing 10 = .ok (.isub, 1) := by decide +kernel
theorem dX10_isThing_11 : decode cX10_isThing 11 = .ok (.i2l, 1) := by decide +kernel
theorem dX10_isThing_12 : decode cX10_isThing 12 = .ok (.invokestatic 116, 3) := by decide +kernel
theorem dX10_isThing_15 : decode cX10_isThing 15 = .ok (.ireturn, 1) := by decide +kernel
theorem dX10_areTwo_0 : decode cX10_areTwo 0 = .ok (.aload_n 0, 1) := by decide +kernel
theorem dX10_areTwo_1 : decode cX10_areTwo 1 = .ok (.iload_n 1, 1) := by decide +kernel
theorem dX10_areTwo_2 : decode cX10_areTwo 2 = .ok (.invokevirtual 297, 3) := by decide +kernel
theorem dX10_areTwo_5 : decode cX10_areTwo 5 = .ok (.ifCond .eq 20, 3) := by decide +kernel
theorem dX10_areTwo_8 : decode cX10_areTwo 8 = .ok (.aload_n 0, 1) := by decide +kernel
theorem dX10_areTwo_9 : decode cX10_areTwo 9 = .ok (.iload_n 2, 1) := by decide +kernel
theorem dX10_areTwo_10 : decode cX10_areTwo 10 = .ok (.invokevirtual 297, 3) := by decide +kernel
theorem dX10_areTwo_13 : decode cX10_areTwo 13 = .ok (.ifCond .eq 12, 3) := by decide +kernel
theorem dX10_areTwo_16 : decode cX10_areTwo 16 = .ok (.iload_n 1, 1) := by decide +kernel
theorem dX10_areTwo_17 : decode cX10_areTwo 17 = .ok (.iload_n 2, 1) := by decide +kernel
theorem dX10_areTwo_18 : decode cX10_areTwo 18 = .ok (.if_icmp .eq 7, 3) := by decide +kernel
theorem dX10_areTwo_25 : decode cX10_areTwo 25 = .ok (.iconst 0, 1) := by decide +kernel
theorem dX10_areTwo_26 : decode cX10_areTwo 26 = .ok (.ireturn, 1) := by decide +kernel
theorem dX10_areTwo_21 : decode cX10_areTwo 21 = .ok (.iconst 1, 1) := by decide +kernel
theorem dX10_areTwo_22 : decode cX10_areTwo 22 = .ok (.goto 4, 3) := by decide +kernel
theorem dX10_isStore_0 : decode cX10_isStore 0 = .ok (.aload_n 0, 1) := by decide +kernel
theorem dX10_isStore_1 : decode cX10_isStore 1 = .ok (.iload_n 1, 1) := by decide +kernel
theorem dX10_isStore_2 : decode cX10_isStore 2 = .ok (.invokevirtual 297, 3) := by decide +kernel
theorem dX10_isStore_5 : decode cX10_isStore 5 = .ok (.ifCond .eq 23, 3) := by decide +kernel
theorem dX10_isStore_8 : decode cX10_isStore 8 = .ok (.aload_n 0, 1) := by decide +kernel
theorem dX10_isStore_9 : decode cX10_isStore 9 = .ok (.iload_n 2, 1) := by decide +kernel
theorem dX10_isStore_10 : decode cX10_isStore 10 = .ok (.invokevirtual 350, 3) := by decide +kernel
theorem dX10_isStore_13 : decode cX10_isStore 13 = .ok (.ifCond .eq 15, 3) := by decide +kernel
theorem dX10_isStore_16 : decode cX10_isStore 16 = .ok (.aload_n 0, 1) := by decide +kernel
theorem dX10_isStore_17 : decode cX10_isStore 17 = .ok (.iload_n 3, 1) := by decide +kernel
theorem dX10_isStore_18 : decode cX10_isStore 18 = .ok (.invokevirtual 372, 3) := by decide +kernel
theorem dX10_isStore_21 : decode cX10_isStore 21 = .ok (.ifCond .eq 7, 3) := by decide +kernel
theorem dX10_isStore_24 : decode cX10_isStore 24 = .ok (.iconst 1, 1) := by decide +kernel
theorem dX10_isStore_25 : decode cX10_isStore 25 = .ok (.goto 4, 3) := by decide +kernel
theorem dX10_isStore_29 : decode cX10_isStore 29 = .ok (.ireturn, 1) := by decide +kernel
theorem dX10_isStore_28 : decode cX10_isStore 28 = .ok (.iconst 0, 1) := by decide +kernel
theorem dX10_shutOf_0 : decode cX10_shutOf 0 = .ok (.aload_n 0, 1) := by decide +kernel
theorem dX10_shutOf_1 : decode cX10_shutOf 1 = .ok (.getfield 46, 3) := by decide +kernel
theorem dX10_shutOf_4 : decode cX10_shutOf 4 = .ok (.iconst 5, 1) := by decide +kernel
theorem dX10_shutOf_5 : decode cX10_shutOf 5 = .ok (.iload_n 1, 1) := by decide +kernel
theorem dX10_shutOf_6 : decode cX10_shutOf 6 = .ok (.imul, 1) := by decide +kernel
theorem dX10_shutOf_7 : decode cX10_shutOf 7 = .ok (.iaload, 1) := by decide +kernel
theorem dX10_shutOf_8 : decode cX10_shutOf 8 = .ok (.ireturn, 1) := by decide +kernel
theorem dX10_wantOf_0 : decode cX10_wantOf 0 = .ok (.aload_n 0, 1) := by decide +kernel
theorem dX10_wantOf_1 : decode cX10_wantOf 1 = .ok (.getfield 46, 3) := by decide +kernel
theorem dX10_wantOf_4 : decode cX10_wantOf 4 = .ok (.iconst 5, 1) := by decide +kernel
theorem dX10_wantOf_5 : decode cX10_wantOf 5 = .ok (.iload_n 1, 1) := by decide +kernel
theorem dX10_wantOf_6 : decode cX10_wantOf 6 = .ok (.imul, 1) := by decide +kernel
theorem dX10_wantOf_7 : decode cX10_wantOf 7 = .ok (.iconst 2, 1) := by decide +kernel
theorem dX10_wantOf_8 : decode cX10_wantOf 8 = .ok (.iadd, 1) := by decide +kernel
theorem dX10_wantOf_9 : decode cX10_wantOf 9 = .ok (.iload_n 2, 1) := by decide +kernel
theorem dX10_wantOf_10 : decode cX10_wantOf 10 = .ok (.iadd, 1) := by decide +kernel
theorem dX10_wantOf_11 : decode cX10_wantOf 11 = .ok (.iaload, 1) := by decide +kernel
theorem dX10_wantOf_12 : decode cX10_wantOf 12 = .ok (.ireturn, 1) := by decide +kernel
theorem dX10_priceOf_0 : decode cX10_priceOf 0 = .ok (.aload_n 0, 1) := by decide +kernel
theorem dX10_priceOf_1 : decode cX10_priceOf 1 = .ok (.getfield 40, 3) := by decide +kernel
theorem dX10_priceOf_4 : decode cX10_priceOf 4 = .ok (.iconst 3, 1) := by decide +kernel
theorem dX10_priceOf_5 : decode cX10_priceOf 5 = .ok (.iload_n 1, 1) := by decide +kernel
theorem dX10_priceOf_6 : decode cX10_priceOf 6 = .ok (.imul, 1) := by decide +kernel
theorem dX10_priceOf_7 : decode cX10_priceOf 7 = .ok (.iaload, 1) := by decide +kernel
theorem dX10_priceOf_8 : decode cX10_priceOf 8 = .ok (.ireturn, 1) := by decide +kernel
theorem dX10_harmOf_0 : decode cX10_harmOf 0 = .ok (.aload_n 0, 1) := by decide +kernel
theorem dX10_harmOf_1 : decode cX10_harmOf 1 = .ok (.getfield 40, 3) := by decide +kernel
theorem dX10_harmOf_4 : decode cX10_harmOf 4 = .ok (.iconst 3, 1) := by decide +kernel
theorem dX10_harmOf_5 : decode cX10_harmOf 5 = .ok (.iload_n 1, 1) := by decide +kernel
theorem dX10_harmOf_6 : decode cX10_harmOf 6 = .ok (.imul, 1) := by decide +kernel
theorem dX10_harmOf_7 : decode cX10_harmOf 7 = .ok (.iconst 1, 1) := by decide +kernel
theorem dX10_harmOf_8 : decode cX10_harmOf 8 = .ok (.iadd, 1) := by decide +kernel
theorem dX10_harmOf_9 : decode cX10_harmOf 9 = .ok (.iaload, 1) := by decide +kernel
theorem dX10_harmOf_10 : decode cX10_harmOf 10 = .ok (.ireturn, 1) := by decide +kernel
theorem dX10_backOf_0 : decode cX10_backOf 0 = .ok (.aload_n 0, 1) := by decide +kernel
theorem dX10_backOf_1 : decode cX10_backOf 1 = .ok (.getfield 40, 3) := by decide +kernel
theorem dX10_backOf_4 : decode cX10_backOf 4 = .ok (.iconst 3, 1) := by decide +kernel
theorem dX10_backOf_5 : decode cX10_backOf 5 = .ok (.iload_n 1, 1) := by decide +kernel
theorem dX10_backOf_6 : decode cX10_backOf 6 = .ok (.imul, 1) := by decide +kernel
theorem dX10_backOf_7 : decode cX10_backOf 7 = .ok (.iconst 2, 1) := by decide +kernel
theorem dX10_backOf_8 : decode cX10_backOf 8 = .ok (.iadd, 1) := by decide +kernel
theorem dX10_backOf_9 : decode cX10_backOf 9 = .ok (.iaload, 1) := by decide +kernel
theorem dX10_backOf_10 : decode cX10_backOf 10 = .ok (.ireturn, 1) := by decide +kernel
theorem dX10_hundredths_0 : decode cX10_hundredths 0 = .ok (.lload_n 0, 1) := by decide +kernel
theorem dX10_hundredths_1 : decode cX10_hundredths 1 = .ok (.iload_n 2, 1) := by decide +kernel
theorem dX10_hundredths_2 : decode cX10_hundredths 2 = .ok (.i2l, 1) := by decide +kernel
theorem dX10_hundredths_3 : decode cX10_hundredths 3 = .ok (.lmul, 1) := by decide +kernel
theorem dX10_hundredths_4 : decode cX10_hundredths 4 = .ok (.ldc2_w 282, 3) := by decide +kernel
theorem dX10_hundredths_7 : decode cX10_hundredths 7 = .ok (.ldiv, 1) := by decide +kernel
theorem dX10_hundredths_8 : decode cX10_hundredths 8 = .ok (.lreturn, 1) := by decide +kernel
theorem dX10_chance_0 : decode cX10_chance 0 = .ok (.iload_n 1, 1) := by decide +kernel
theorem dX10_chance_1 : decode cX10_chance 1 = .ok (.iconst 1, 1) := by decide +kernel
theorem dX10_chance_2 : decode cX10_chance 2 = .ok (.if_icmp .ne 12, 3) := by decide +kernel
theorem dX10_chance_14 : decode cX10_chance 14 = .ok (.iload_n 2, 1) := by decide +kernel
theorem dX10_chance_15 : decode cX10_chance 15 = .ok (.ifCond .eq 12, 3) := by decide +kernel
theorem dX10_chance_27 : decode cX10_chance 27 = .ok (.aload_n 0, 1) := by decide +kernel
theorem dX10_chance_28 : decode cX10_chance 28 = .ok (.getfield 34, 3) := by decide +kernel
theorem dX10_chance_31 : decode cX10_chance 31 = .ok (.iconst 3, 1) := by decide +kernel
theorem dX10_chance_32 : decode cX10_chance 32 = .ok (.iaload, 1) := by decide +kernel
theorem dX10_chance_33 : decode cX10_chance 33 = .ok (.ireturn, 1) := by decide +kernel
theorem dX10_chance_18 : decode cX10_chance 18 = .ok (.aload_n 0, 1) := by decide +kernel
theorem dX10_chance_19 : decode cX10_chance 19 = .ok (.getfield 34, 3) := by decide +kernel
theorem dX10_chance_22 : decode cX10_chance 22 = .ok (.iconst 2, 1) := by decide +kernel
theorem dX10_chance_23 : decode cX10_chance 23 = .ok (.iaload, 1) := by decide +kernel
theorem dX10_chance_24 : decode cX10_chance 24 = .ok (.goto 9, 3) := by decide +kernel
theorem dX10_chance_5 : decode cX10_chance 5 = .ok (.aload_n 0, 1) := by decide +kernel
theorem dX10_chance_6 : decode cX10_chance 6 = .ok (.getfield 34, 3) := by decide +kernel
theorem dX10_chance_9 : decode cX10_chance 9 = .ok (.iconst 1, 1) := by decide +kernel
theorem dX10_chance_10 : decode cX10_chance 10 = .ok (.iaload, 1) := by decide +kernel
theorem dX10_chance_11 : decode cX10_chance 11 = .ok (.goto 22, 3) := by decide +kernel
theorem dX10_wantsOf_0 : decode cX10_wantsOf 0 = .ok (.iload_n 3, 1) := by decide +kernel
theorem dX10_wantsOf_1 : decode cX10_wantsOf 1 = .ok (.ifCond .ne 7, 3) := by decide +kernel
theorem dX10_wantsOf_8 : decode cX10_wantsOf 8 = .ok (.aload_n 0, 1) := by decide +kernel
theorem dX10_wantsOf_9 : decode cX10_wantsOf 9 = .ok (.iload_n 1, 1) := by decide +kernel
theorem dX10_wantsOf_10 : decode cX10_wantsOf 10 = .ok (.iload_n 2, 1) := by decide +kernel
theorem dX10_wantsOf_11 : decode cX10_wantsOf 11 = .ok (.invokevirtual 347, 3) := by decide +kernel
theorem dX10_wantsOf_14 : decode cX10_wantsOf 14 = .ok (.aload_n 0, 1) := by decide +kernel
theorem dX10_wantsOf_15 : decode cX10_wantsOf 15 = .ok (.invokevirtual 278, 3) := by decide +kernel
theorem dX10_wantsOf_18 : decode cX10_wantsOf 18 = .ok (.iload_n 3, 1) := by decide +kernel
theorem dX10_wantsOf_19 : decode cX10_wantsOf 19 = .ok (.isub, 1) := by decide +kernel
theorem dX10_wantsOf_20 : decode cX10_wantsOf 20 = .ok (.imul, 1) := by decide +kernel
theorem dX10_wantsOf_21 : decode cX10_wantsOf 21 = .ok (.ireturn, 1) := by decide +kernel
theorem dX10_wantsOf_4 : decode cX10_wantsOf 4 = .ok (.iconst 0, 1) := by decide +kernel
theorem dX10_wantsOf_5 : decode cX10_wantsOf 5 = .ok (.goto 16, 3) := by decide +kernel
theorem dX10_outcome_0 : decode cX10_outcome 0 = .ok (.iload_n 2, 1) := by decide +kernel
theorem dX10_outcome_1 : decode cX10_outcome 1 = .ok (.iload_n 3, 1) := by decide +kernel
theorem dX10_outcome_2 : decode cX10_outcome 2 = .ok (.if_icmp .le 17, 3) := by decide +kernel
theorem dX10_outcome_19 : decode cX10_outcome 19 = .ok (.aload_n 0, 1) := by decide +kernel
theorem dX10_outcome_20 : decode cX10_outcome 20 = .ok (.iload_n 1, 1) := by decide +kernel
theorem dX10_outcome_21 : decode cX10_outcome 21 = .ok (.invokevirtual 360, 3) := by decide +kernel
theorem dX10_outcome_24 : decode cX10_outcome 24 = .ok (.i2l, 1) := by decide +kernel
theorem dX10_outcome_25 : decode cX10_outcome 25 = .ok (.iload_n 3, 1) := by decide +kernel
theorem dX10_outcome_26 : decode cX10_outcome 26 = .ok (.iload_n 2, 1) := by decide +kernel
theorem dX10_outcome_27 : decode cX10_outcome 27 = .ok (.isub, 1) := by decide +kernel
theorem dX10_outcome_28 : decode cX10_outcome 28 = .ok (.i2l, 1) := by decide +kernel
theorem dX10_outcome_29 : decode cX10_outcome 29 = .ok (.lmul, 1) := by decide +kernel
theorem dX10_outcome_30 : decode cX10_outcome 30 = .ok (.lreturn, 1) := by decide +kernel
theorem dX10_outcome_5 : decode cX10_outcome 5 = .ok (.aload_n 0, 1) := by decide +kernel
theorem dX10_outcome_6 : decode cX10_outcome 6 = .ok (.iload_n 1, 1) := by decide +kernel
theorem dX10_outcome_7 : decode cX10_outcome 7 = .ok (.invokevirtual 357, 3) := by decide +kernel
theorem dX10_outcome_10 : decode cX10_outcome 10 = .ok (.i2l, 1) := by decide +kernel
theorem dX10_outcome_11 : decode cX10_outcome 11 = .ok (.iload_n 2, 1) := by decide +kernel
theorem dX10_outcome_12 : decode cX10_outcome 12 = .ok (.iload_n 3, 1) := by decide +kernel
theorem dX10_outcome_13 : decode cX10_outcome 13 = .ok (.isub, 1) := by decide +kernel
theorem dX10_outcome_14 : decode cX10_outcome 14 = .ok (.i2l, 1) := by decide +kernel
theorem dX10_outcome_15 : decode cX10_outcome 15 = .ok (.lmul, 1) := by decide +kernel
theorem dX10_outcome_16 : decode cX10_outcome 16 = .ok (.goto 14, 3) := by decide +kernel
theorem dX10_at2_0 : decode cX10_at2 0 = .ok (.bipush 61, 2) := by decide +kernel
theorem dX10_at2_2 : decode cX10_at2 2 = .ok (.iload_n 0, 1) := by decide +kernel
theorem dX10_at2_3 : decode cX10_at2 3 = .ok (.imul, 1) := by decide +kernel
theorem dX10_at2_4 : decode cX10_at2 4 = .ok (.iload_n 1, 1) := by decide +kernel
theorem dX10_at2_5 : decode cX10_at2 5 = .ok (.iadd, 1) := by decide +kernel
theorem dX10_at2_6 : decode cX10_at2 6 = .ok (.ireturn, 1) := by decide +kernel
theorem dX10_at3_0 : decode cX10_at3 0 = .ok (.iconst 2, 1) := by decide +kernel
theorem dX10_at3_1 : decode cX10_at3 1 = .ok (.iload_n 0, 1) := by decide +kernel
theorem dX10_at3_2 : decode cX10_at3 2 = .ok (.imul, 1) := by decide +kernel
theorem dX10_at3_3 : decode cX10_at3 3 = .ok (.iload_n 1, 1) := by decide +kernel
theorem dX10_at3_4 : decode cX10_at3 4 = .ok (.ifCond .eq 7, 3) := by decide +kernel
theorem dX10_at3_11 : decode cX10_at3 11 = .ok (.iconst 0, 1) := by decide +kernel
theorem dX10_at3_12 : decode cX10_at3 12 = .ok (.iadd, 1) := by decide +kernel
theorem dX10_at3_13 : decode cX10_at3 13 = .ok (.sipush 601, 3) := by decide +kernel
theorem dX10_at3_16 : decode cX10_at3 16 = .ok (.imul, 1) := by decide +kernel
theorem dX10_at3_17 : decode cX10_at3 17 = .ok (.iload_n 2, 1) := by decide +kernel
theorem dX10_at3_18 : decode cX10_at3 18 = .ok (.iadd, 1) := by decide +kernel
theorem dX10_at3_19 : decode cX10_at3 19 = .ok (.ireturn, 1) := by decide +kernel
theorem dX10_at3_7 : decode cX10_at3 7 = .ok (.iconst 1, 1) := by decide +kernel
theorem dX10_at3_8 : decode cX10_at3 8 = .ok (.goto 4, 3) := by decide +kernel
theorem dX10_splits_0 : decode cX10_splits 0 = .ok (.lconst 0, 1) := by decide +kernel
theorem dX10_splits_1 : decode cX10_splits 1 = .ok (.lstore_n 2, 1) := by decide +kernel
theorem dX10_splits_2 : decode cX10_splits 2 = .ok (.ldc2_w 284, 3) := by decide +kernel
theorem dX10_splits_5 : decode cX10_splits 5 = .ok (.lstore 4, 2) := by decide +kernel
theorem dX10_splits_7 : decode cX10_splits 7 = .ok (.iconst 1, 1) := by decide +kernel
theorem dX10_splits_8 : decode cX10_splits 8 = .ok (.istore 6, 2) := by decide +kernel
theorem dX10_splits_10 : decode cX10_splits 10 = .ok (.iload 6, 2) := by decide +kernel
theorem dX10_splits_12 : decode cX10_splits 12 = .ok (.aload_n 0, 1) := by decide +kernel
theorem dX10_splits_13 : decode cX10_splits 13 = .ok (.invokevirtual 278, 3) := by decide +kernel
theorem dX10_splits_16 : decode cX10_splits 16 = .ok (.if_icmp .gt 82, 3) := by decide +kernel
theorem dX10_splits_98 : decode cX10_splits 98 = .ok (.aload_n 0, 1) := by decide +kernel
theorem dX10_splits_99 : decode cX10_splits 99 = .ok (.getfield 71, 3) := by decide +kernel
theorem dX10_splits_102 : decode cX10_splits 102 = .ok (.iconst 0, 1) := by decide +kernel
theorem dX10_splits_103 : decode cX10_splits 103 = .ok (.lload_n 2, 1) := by decide +kernel
theorem dX10_splits_104 : decode cX10_splits 104 = .ok (.lload 4, 2) := by decide +kernel
theorem dX10_splits_106 : decode cX10_splits 106 = .ok (.ladd, 1) := by decide +kernel
theorem dX10_splits_107 : decode cX10_splits 107 = .ok (.lastore, 1) := by decide +kernel
theorem dX10_splits_108 : decode cX10_splits 108 = .ok (.return_, 1) := by decide +kernel
theorem dX10_splits_19 : decode cX10_splits 19 = .ok (.lload_n 2, 1) := by decide +kernel
theorem dX10_splits_20 : decode cX10_splits 20 = .ok (.aload_n 0, 1) := by decide +kernel
theorem dX10_splits_21 : decode cX10_splits 21 = .ok (.iload 6, 2) := by decide +kernel
theorem dX10_splits_23 : decode cX10_splits 23 = .ok (.iconst 1, 1) := by decide +kernel
theorem dX10_splits_24 : decode cX10_splits 24 = .ok (.invokevirtual 286, 3) := by decide +kernel
theorem dX10_splits_27 : decode cX10_splits 27 = .ok (.invokestatic 290, 3) := by decide +kernel
theorem dX10_splits_30 : decode cX10_splits 30 = .ok (.lstore 7, 2) := by decide +kernel
theorem dX10_splits_32 : decode cX10_splits 32 = .ok (.lload 4, 2) := by decide +kernel
theorem dX10_splits_34 : decode cX10_splits 34 = .ok (.aload_n 0, 1) := by decide +kernel
theorem dX10_splits_35 : decode cX10_splits 35 = .ok (.iload 6, 2) := by decide +kernel
theorem dX10_splits_37 : decode cX10_splits 37 = .ok (.iconst 0, 1) := by decide +kernel
theorem dX10_splits_38 : decode cX10_splits 38 = .ok (.invokevirtual 286, 3) := by decide +kernel
theorem dX10_splits_41 : decode cX10_splits 41 = .ok (.invokestatic 290, 3) := by decide +kernel
theorem dX10_splits_44 : decode cX10_splits 44 = .ok (.lstore 9, 2) := by decide +kernel
theorem dX10_splits_46 : decode cX10_splits 46 = .ok (.aload_n 0, 1) := by decide +kernel
theorem dX10_splits_47 : decode cX10_splits 47 = .ok (.getfield 71, 3) := by decide +kernel
theorem dX10_splits_50 : decode cX10_splits 50 = .ok (.iload 6, 2) := by decide +kernel
theorem dX10_splits_52 : decode cX10_splits 52 = .ok (.lload 7, 2) := by decide +kernel
theorem dX10_splits_54 : decode cX10_splits 54 = .ok (.lload 9, 2) := by decide +kernel
theorem dX10_splits_56 : decode cX10_splits 56 = .ok (.ladd, 1) := by decide +kernel
theorem dX10_splits_57 : decode cX10_splits 57 = .ok (.aload_n 0, 1) := by decide +kernel
theorem dX10_splits_58 : decode cX10_splits 58 = .ok (.iload_n 1, 1) := by decide +kernel
theorem dX10_splits_59 : decode cX10_splits 59 = .ok (.invokevirtual 293, 3) := by decide +kernel
theorem dX10_splits_62 : decode cX10_splits 62 = .ok (.invokestatic 290, 3) := by decide +kernel
theorem dX10_splits_65 : decode cX10_splits 65 = .ok (.lastore, 1) := by decide +kernel
theorem dX10_splits_66 : decode cX10_splits 66 = .ok (.lload_n 2, 1) := by decide +kernel
theorem dX10_splits_67 : decode cX10_splits 67 = .ok (.lload 7, 2) := by decide +kernel
theorem dX10_splits_69 : decode cX10_splits 69 = .ok (.lsub, 1) := by decide +kernel
theorem dX10_splits_70 : decode cX10_splits 70 = .ok (.lload 4, 2) := by decide +kernel
theorem dX10_splits_72 : decode cX10_splits 72 = .ok (.ladd, 1) := by decide +kernel
theorem dX10_splits_73 : decode cX10_splits 73 = .ok (.lload 9, 2) := by decide +kernel
theorem dX10_splits_75 : decode cX10_splits 75 = .ok (.lsub, 1) := by decide +kernel
theorem dX10_splits_76 : decode cX10_splits 76 = .ok (.lstore 4, 2) := by decide +kernel
theorem dX10_splits_78 : decode cX10_splits 78 = .ok (.lload 7, 2) := by decide +kernel
theorem dX10_splits_80 : decode cX10_splits 80 = .ok (.lload 9, 2) := by decide +kernel
theorem dX10_splits_82 : decode cX10_splits 82 = .ok (.ladd, 1) := by decide +kernel
theorem dX10_splits_83 : decode cX10_splits 83 = .ok (.aload_n 0, 1) := by decide +kernel
theorem dX10_splits_84 : decode cX10_splits 84 = .ok (.getfield 71, 3) := by decide +kernel
theorem dX10_splits_87 : decode cX10_splits 87 = .ok (.iload 6, 2) := by decide +kernel
theorem dX10_splits_89 : decode cX10_splits 89 = .ok (.laload, 1) := by decide +kernel
theorem dX10_splits_90 : decode cX10_splits 90 = .ok (.lsub, 1) := by decide +kernel
theorem dX10_splits_91 : decode cX10_splits 91 = .ok (.lstore_n 2, 1) := by decide +kernel
theorem dX10_splits_92 : decode cX10_splits 92 = .ok (.iinc 6 1, 3) := by decide +kernel
theorem dX10_splits_95 : decode cX10_splits 95 = .ok (.goto (-85), 3) := by decide +kernel
theorem dX10_byDay_0 : decode cX10_byDay 0 = .ok (.lconst 0, 1) := by decide +kernel
theorem dX10_byDay_1 : decode cX10_byDay 1 = .ok (.lstore_n 2, 1) := by decide +kernel
theorem dX10_byDay_2 : decode cX10_byDay 2 = .ok (.iconst 1, 1) := by decide +kernel
theorem dX10_byDay_3 : decode cX10_byDay 3 = .ok (.istore 4, 2) := by decide +kernel
theorem dX10_byDay_5 : decode cX10_byDay 5 = .ok (.iload 4, 2) := by decide +kernel
theorem dX10_byDay_7 : decode cX10_byDay 7 = .ok (.iload_n 1, 1) := by decide +kernel
theorem dX10_byDay_8 : decode cX10_byDay 8 = .ok (.if_icmp .gt 19, 3) := by decide +kernel
theorem dX10_byDay_27 : decode cX10_byDay 27 = .ok (.lload_n 2, 1) := by decide +kernel
theorem dX10_byDay_28 : decode cX10_byDay 28 = .ok (.lreturn, 1) := by decide +kernel
theorem dX10_byDay_11 : decode cX10_byDay 11 = .ok (.lload_n 2, 1) := by decide +kernel
theorem dX10_byDay_12 : decode cX10_byDay 12 = .ok (.aload_n 0, 1) := by decide +kernel
theorem dX10_byDay_13 : decode cX10_byDay 13 = .ok (.getfield 71, 3) := by decide +kernel
theorem dX10_byDay_16 : decode cX10_byDay 16 = .ok (.iload 4, 2) := by decide +kernel
theorem dX10_byDay_18 : decode cX10_byDay 18 = .ok (.laload, 1) := by decide +kernel
theorem dX10_byDay_19 : decode cX10_byDay 19 = .ok (.ladd, 1) := by decide +kernel
theorem dX10_byDay_20 : decode cX10_byDay 20 = .ok (.lstore_n 2, 1) := by decide +kernel
theorem dX10_byDay_21 : decode cX10_byDay 21 = .ok (.iinc 4 1, 3) := by decide +kernel
theorem dX10_byDay_24 : decode cX10_byDay 24 = .ok (.goto (-19), 3) := by decide +kernel
theorem dX10_two_0 : decode cX10_two 0 = .ok (.aload_n 0, 1) := by decide +kernel
theorem dX10_two_1 : decode cX10_two 1 = .ok (.getfield 74, 3) := by decide +kernel
theorem dX10_two_4 : decode cX10_two 4 = .ok (.iload_n 1, 1) := by decide +kernel
theorem dX10_two_5 : decode cX10_two 5 = .ok (.iload_n 2, 1) := by decide +kernel
theorem dX10_two_6 : decode cX10_two 6 = .ok (.invokestatic 312, 3) := by decide +kernel
theorem dX10_two_9 : decode cX10_two 9 = .ok (.laload, 1) := by decide +kernel
theorem dX10_two_10 : decode cX10_two 10 = .ok (.aload_n 0, 1) := by decide +kernel
theorem dX10_two_11 : decode cX10_two 11 = .ok (.getfield 77, 3) := by decide +kernel
theorem dX10_two_14 : decode cX10_two 14 = .ok (.iload_n 1, 1) := by decide +kernel
theorem dX10_two_15 : decode cX10_two 15 = .ok (.iload_n 2, 1) := by decide +kernel
theorem dX10_two_16 : decode cX10_two 16 = .ok (.invokestatic 312, 3) := by decide +kernel
theorem dX10_two_19 : decode cX10_two 19 = .ok (.laload, 1) := by decide +kernel
theorem dX10_two_20 : decode cX10_two 20 = .ok (.ladd, 1) := by decide +kernel
theorem dX10_two_21 : decode cX10_two 21 = .ok (.lreturn, 1) := by decide +kernel
theorem dX10_fallsOther_0 : decode cX10_fallsOther 0 = .ok (.iload_n 3, 1) := by decide +kernel
theorem dX10_fallsOther_1 : decode cX10_fallsOther 1 = .ok (.ifCond .ne 16, 3) := by decide +kernel
theorem dX10_fallsOther_17 : decode cX10_fallsOther 17 = .ok (.lconst 0, 1) := by decide +kernel
theorem dX10_fallsOther_18 : decode cX10_fallsOther 18 = .ok (.lstore 7, 2) := by decide +kernel
theorem dX10_fallsOther_20 : decode cX10_fallsOther 20 = .ok (.aload_n 0, 1) := by decide +kernel
theorem dX10_fallsOther_21 : decode cX10_fallsOther 21 = .ok (.getfield 74, 3) := by decide +kernel
theorem dX10_fallsOther_24 : decode cX10_fallsOther 24 = .ok (.iload_n 2, 1) := by decide +kernel
theorem dX10_fallsOther_25 : decode cX10_fallsOther 25 = .ok (.iload 4, 2) := by decide +kernel
theorem dX10_fallsOther_27 : decode cX10_fallsOther 27 = .ok (.invokestatic 312, 3) := by decide +kernel
theorem dX10_fallsOther_30 : decode cX10_fallsOther 30 = .ok (.dup2, 1) := by decide +kernel
theorem dX10_fallsOther_31 : decode cX10_fallsOther 31 = .ok (.laload, 1) := by decide +kernel
theorem dX10_fallsOther_32 : decode cX10_fallsOther 32 = .ok (.lload 7, 2) := by decide +kernel
theorem dX10_fallsOther_34 : decode cX10_fallsOther 34 = .ok (.ladd, 1) := by decide +kernel
theorem dX10_fallsOther_35 : decode cX10_fallsOther 35 = .ok (.lastore, 1) := by decide +kernel
theorem dX10_fallsOther_36 : decode cX10_fallsOther 36 = .ok (.aload_n 0, 1) := by decide +kernel
theorem dX10_fallsOther_37 : decode cX10_fallsOther 37 = .ok (.getfield 74, 3) := by decide +kernel
theorem dX10_fallsOther_40 : decode cX10_fallsOther 40 = .ok (.iload_n 2, 1) := by decide +kernel
theorem dX10_fallsOther_41 : decode cX10_fallsOther 41 = .ok (.iload_n 3, 1) := by decide +kernel
theorem dX10_fallsOther_42 : decode cX10_fallsOther 42 = .ok (.invokestatic 312, 3) := by decide +kernel
theorem dX10_fallsOther_45 : decode cX10_fallsOther 45 = .ok (.dup2, 1) := by decide +kernel
theorem dX10_fallsOther_46 : decode cX10_fallsOther 46 = .ok (.laload, 1) := by decide +kernel
theorem dX10_fallsOther_47 : decode cX10_fallsOther 47 = .ok (.lload 5, 2) := by decide +kernel
theorem dX10_fallsOther_49 : decode cX10_fallsOther 49 = .ok (.lload 7, 2) := by decide +kernel
theorem dX10_fallsOther_51 : decode cX10_fallsOther 51 = .ok (.lsub, 1) := by decide +kernel
theorem dX10_fallsOther_52 : decode cX10_fallsOther 52 = .ok (.ladd, 1) := by decide +kernel
theorem dX10_fallsOther_53 : decode cX10_fallsOther 53 = .ok (.lastore, 1) := by decide +kernel
theorem dX10_fallsOther_54 : decode cX10_fallsOther 54 = .ok (.return_, 1) := by decide +kernel
theorem dX10_fallsOther_4 : decode cX10_fallsOther 4 = .ok (.lload 5, 2) := by decide +kernel
theorem dX10_fallsOther_6 : decode cX10_fallsOther 6 = .ok (.aload_n 0, 1) := by decide +kernel
theorem dX10_fallsOther_7 : decode cX10_fallsOther 7 = .ok (.iload_n 1, 1) := by decide +kernel
theorem dX10_fallsOther_8 : decode cX10_fallsOther 8 = .ok (.invokevirtual 293, 3) := by decide +kernel
theorem dX10_fallsOther_11 : decode cX10_fallsOther 11 = .ok (.invokestatic 290, 3) := by decide +kernel
theorem dX10_fallsOther_14 : decode cX10_fallsOther 14 = .ok (.goto 4, 3) := by decide +kernel
theorem dX10_falls_0 : decode cX10_falls 0 = .ok (.aload_n 0, 1) := by decide +kernel
theorem dX10_falls_1 : decode cX10_falls 1 = .ok (.getfield 80, 3) := by decide +kernel
theorem dX10_falls_4 : decode cX10_falls 4 = .ok (.iload_n 3, 1) := by decide +kernel
theorem dX10_falls_5 : decode cX10_falls 5 = .ok (.iload 4, 2) := by decide +kernel
theorem dX10_falls_7 : decode cX10_falls 7 = .ok (.invokestatic 312, 3) := by decide +kernel
theorem dX10_falls_10 : decode cX10_falls 10 = .ok (.laload, 1) := by decide +kernel
theorem dX10_falls_11 : decode cX10_falls 11 = .ok (.lstore 6, 2) := by decide +kernel
theorem dX10_falls_13 : decode cX10_falls 13 = .ok (.iload_n 3, 1) := by decide +kernel
theorem dX10_falls_14 : decode cX10_falls 14 = .ok (.ifCond .ne 16, 3) := by decide +kernel
theorem dX10_falls_30 : decode cX10_falls 30 = .ok (.lconst 0, 1) := by decide +kernel
theorem dX10_falls_31 : decode cX10_falls 31 = .ok (.lstore 8, 2) := by decide +kernel
theorem dX10_falls_33 : decode cX10_falls 33 = .ok (.aload_n 0, 1) := by decide +kernel
theorem dX10_falls_34 : decode cX10_falls 34 = .ok (.iload_n 2, 1) := by decide +kernel
theorem dX10_falls_35 : decode cX10_falls 35 = .ok (.iload 5, 2) := by decide +kernel
theorem dX10_falls_37 : decode cX10_falls 37 = .ok (.iload 4, 2) := by decide +kernel
theorem dX10_falls_39 : decode cX10_falls 39 = .ok (.iload 5, 2) := by decide +kernel
theorem dX10_falls_41 : decode cX10_falls 41 = .ok (.lload 8, 2) := by decide +kernel
theorem dX10_falls_43 : decode cX10_falls 43 = .ok (.invokevirtual 319, 3) := by decide +kernel
theorem dX10_falls_46 : decode cX10_falls 46 = .ok (.aload_n 0, 1) := by decide +kernel
theorem dX10_falls_47 : decode cX10_falls 47 = .ok (.iload_n 2, 1) := by decide +kernel
theorem dX10_falls_48 : decode cX10_falls 48 = .ok (.iload_n 3, 1) := by decide +kernel
theorem dX10_falls_49 : decode cX10_falls 49 = .ok (.iload 4, 2) := by decide +kernel
theorem dX10_falls_51 : decode cX10_falls 51 = .ok (.iload 5, 2) := by decide +kernel
theorem dX10_falls_53 : decode cX10_falls 53 = .ok (.lload 6, 2) := by decide +kernel
theorem dX10_falls_55 : decode cX10_falls 55 = .ok (.lload 8, 2) := by decide +kernel
theorem dX10_falls_57 : decode cX10_falls 57 = .ok (.lsub, 1) := by decide +kernel
theorem dX10_falls_58 : decode cX10_falls 58 = .ok (.invokevirtual 319, 3) := by decide +kernel
theorem dX10_falls_61 : decode cX10_falls 61 = .ok (.return_, 1) := by decide +kernel
theorem dX10_falls_17 : decode cX10_falls 17 = .ok (.lload 6, 2) := by decide +kernel
theorem dX10_falls_19 : decode cX10_falls 19 = .ok (.aload_n 0, 1) := by decide +kernel
theorem dX10_falls_20 : decode cX10_falls 20 = .ok (.iload_n 1, 1) := by decide +kernel
theorem dX10_falls_21 : decode cX10_falls 21 = .ok (.invokevirtual 293, 3) := by decide +kernel
theorem dX10_falls_24 : decode cX10_falls 24 = .ok (.invokestatic 290, 3) := by decide +kernel
theorem dX10_falls_27 : decode cX10_falls 27 = .ok (.goto 4, 3) := by decide +kernel
theorem dX10_splitsTwo_0 : decode cX10_splitsTwo 0 = .ok (.iconst 0, 1) := by decide +kernel
theorem dX10_splitsTwo_1 : decode cX10_splitsTwo 1 = .ok (.istore_n 3, 1) := by decide +kernel
theorem dX10_splitsTwo_2 : decode cX10_splitsTwo 2 = .ok (.iload_n 3, 1) := by decide +kernel
theorem dX10_splitsTwo_3 : decode cX10_splitsTwo 3 = .ok (.sipush 3721, 3) := by decide +kernel
theorem dX10_splitsTwo_6 : decode cX10_splitsTwo 6 = .ok (.if_icmp .ge 23, 3) := by decide +kernel
theorem dX10_splitsTwo_29 : decode cX10_splitsTwo 29 = .ok (.aload_n 0, 1) := by decide +kernel
theorem dX10_splitsTwo_30 : decode cX10_splitsTwo 30 = .ok (.getfield 77, 3) := by decide +kernel
theorem dX10_splitsTwo_33 : decode cX10_splitsTwo 33 = .ok (.iconst 0, 1) := by decide +kernel
theorem dX10_splitsTwo_34 : decode cX10_splitsTwo 34 = .ok (.ldc2_w 284, 3) := by decide +kernel
theorem dX10_splitsTwo_37 : decode cX10_splitsTwo 37 = .ok (.lastore, 1) := by decide +kernel
theorem dX10_splitsTwo_38 : decode cX10_splitsTwo 38 = .ok (.iconst 1, 1) := by decide +kernel
theorem dX10_splitsTwo_39 : decode cX10_splitsTwo 39 = .ok (.istore_n 3, 1) := by decide +kernel
theorem dX10_splitsTwo_40 : decode cX10_splitsTwo 40 = .ok (.iload_n 3, 1) := by decide +kernel
theorem dX10_splitsTwo_41 : decode cX10_splitsTwo 41 = .ok (.aload_n 0, 1) := by decide +kernel
theorem dX10_splitsTwo_42 : decode cX10_splitsTwo 42 = .ok (.invokevirtual 278, 3) := by decide +kernel
theorem dX10_splitsTwo_45 : decode cX10_splitsTwo 45 = .ok (.if_icmp .gt 173, 3) := by decide +kernel
theorem dX10_splitsTwo_218 : decode cX10_splitsTwo 218 = .ok (.return_, 1) := by decide +kernel
theorem dX10_splitsTwo_48 : decode cX10_splitsTwo 48 = .ok (.iconst 0, 1) := by decide +kernel
theorem dX10_splitsTwo_49 : decode cX10_splitsTwo 49 = .ok (.istore 4, 2) := by decide +kernel
theorem dX10_splitsTwo_51 : decode cX10_splitsTwo 51 = .ok (.iload 4, 2) := by decide +kernel
theorem dX10_splitsTwo_53 : decode cX10_splitsTwo 53 = .ok (.iload_n 3, 1) := by decide +kernel
theorem dX10_splitsTwo_54 : decode cX10_splitsTwo 54 = .ok (.if_icmp .ge 117, 3) := by decide +kernel
theorem dX10_splitsTwo_171 : decode cX10_splitsTwo 171 = .ok (.iconst 0, 1) := by decide +kernel
theorem dX10_splitsTwo_172 : decode cX10_splitsTwo 172 = .ok (.istore 4, 2) := by decide +kernel
theorem dX10_splitsTwo_174 : decode cX10_splitsTwo 174 = .ok (.iload 4, 2) := by decide +kernel
theorem dX10_splitsTwo_176 : decode cX10_splitsTwo 176 = .ok (.iload_n 3, 1) := by decide +kernel
theorem dX10_splitsTwo_177 : decode cX10_splitsTwo 177 = .ok (.if_icmp .ge 35, 3) := by decide +kernel
theorem dX10_splitsTwo_212 : decode cX10_splitsTwo 212 = .ok (.iinc 3 1, 3) := by decide +kernel
theorem dX10_splitsTwo_215 : decode cX10_splitsTwo 215 = .ok (.goto (-175), 3) := by decide +kernel
theorem dX10_splitsTwo_180 : decode cX10_splitsTwo 180 = .ok (.iconst 0, 1) := by decide +kernel
theorem dX10_splitsTwo_181 : decode cX10_splitsTwo 181 = .ok (.istore 5, 2) := by decide +kernel
theorem dX10_splitsTwo_183 : decode cX10_splitsTwo 183 = .ok (.iload 5, 2) := by decide +kernel
theorem dX10_splitsTwo_185 : decode cX10_splitsTwo 185 = .ok (.iload_n 3, 1) := by decide +kernel
theorem dX10_splitsTwo_186 : decode cX10_splitsTwo 186 = .ok (.if_icmp .ge 20, 3) := by decide +kernel
theorem dX10_splitsTwo_206 : decode cX10_splitsTwo 206 = .ok (.iinc 4 1, 3) := by decide +kernel
theorem dX10_splitsTwo_209 : decode cX10_splitsTwo 209 = .ok (.goto (-35), 3) := by decide +kernel
theorem dX10_splitsTwo_189 : decode cX10_splitsTwo 189 = .ok (.aload_n 0, 1) := by decide +kernel
theorem dX10_splitsTwo_190 : decode cX10_splitsTwo 190 = .ok (.iload_n 1, 1) := by decide +kernel
theorem dX10_splitsTwo_191 : decode cX10_splitsTwo 191 = .ok (.iload_n 2, 1) := by decide +kernel
theorem dX10_splitsTwo_192 : decode cX10_splitsTwo 192 = .ok (.iload 4, 2) := by decide +kernel
theorem dX10_splitsTwo_194 : decode cX10_splitsTwo 194 = .ok (.iload 5, 2) := by decide +kernel
theorem dX10_splitsTwo_196 : decode cX10_splitsTwo 196 = .ok (.iload_n 3, 1) := by decide +kernel
theorem dX10_splitsTwo_197 : decode cX10_splitsTwo 197 = .ok (.invokevirtual 315, 3) := by decide +kernel
theorem dX10_splitsTwo_200 : decode cX10_splitsTwo 200 = .ok (.iinc 5 1, 3) := by decide +kernel
theorem dX10_splitsTwo_203 : decode cX10_splitsTwo 203 = .ok (.goto (-20), 3) := by decide +kernel
theorem dX10_splitsTwo_57 : decode cX10_splitsTwo 57 = .ok (.iconst 0, 1) := by decide +kernel
theorem dX10_splitsTwo_58 : decode cX10_splitsTwo 58 = .ok (.istore 5, 2) := by decide +kernel
theorem dX10_splitsTwo_60 : decode cX10_splitsTwo 60 = .ok (.iload 5, 2) := by decide +kernel
theorem dX10_splitsTwo_62 : decode cX10_splitsTwo 62 = .ok (.iload_n 3, 1) := by decide +kernel
theorem dX10_splitsTwo_63 : decode cX10_splitsTwo 63 = .ok (.if_icmp .ge 102, 3) := by decide +kernel
theorem dX10_splitsTwo_165 : decode cX10_splitsTwo 165 = .ok (.iinc 4 1, 3) := by decide +kernel
theorem dX10_splitsTwo_168 : decode cX10_splitsTwo 168 = .ok (.goto (-117), 3) := by decide +kernel
theorem dX10_splitsTwo_66 : decode cX10_splitsTwo 66 = .ok (.iload 4, 2) := by decide +kernel
theorem dX10_splitsTwo_68 : decode cX10_splitsTwo 68 = .ok (.iload 5, 2) := by decide +kernel
theorem dX10_splitsTwo_70 : decode cX10_splitsTwo 70 = .ok (.invokestatic 312, 3) := by decide +kernel
theorem dX10_splitsTwo_73 : decode cX10_splitsTwo 73 = .ok (.istore 6, 2) := by decide +kernel
theorem dX10_splitsTwo_75 : decode cX10_splitsTwo 75 = .ok (.aload_n 0, 1) := by decide +kernel
theorem dX10_splitsTwo_76 : decode cX10_splitsTwo 76 = .ok (.getfield 74, 3) := by decide +kernel
theorem dX10_splitsTwo_79 : decode cX10_splitsTwo 79 = .ok (.iload 6, 2) := by decide +kernel
theorem dX10_splitsTwo_81 : decode cX10_splitsTwo 81 = .ok (.laload, 1) := by decide +kernel
theorem dX10_splitsTwo_82 : decode cX10_splitsTwo 82 = .ok (.aload_n 0, 1) := by decide +kernel
theorem dX10_splitsTwo_83 : decode cX10_splitsTwo 83 = .ok (.iload_n 3, 1) := by decide +kernel
theorem dX10_splitsTwo_84 : decode cX10_splitsTwo 84 = .ok (.iconst 1, 1) := by decide +kernel
theorem dX10_splitsTwo_85 : decode cX10_splitsTwo 85 = .ok (.invokevirtual 286, 3) := by decide +kernel
theorem dX10_splitsTwo_88 : decode cX10_splitsTwo 88 = .ok (.invokestatic 290, 3) := by decide +kernel
theorem dX10_splitsTwo_91 : decode cX10_splitsTwo 91 = .ok (.lstore 7, 2) := by decide +kernel
theorem dX10_splitsTwo_93 : decode cX10_splitsTwo 93 = .ok (.aload_n 0, 1) := by decide +kernel
theorem dX10_splitsTwo_94 : decode cX10_splitsTwo 94 = .ok (.getfield 77, 3) := by decide +kernel
theorem dX10_splitsTwo_97 : decode cX10_splitsTwo 97 = .ok (.iload 6, 2) := by decide +kernel
theorem dX10_splitsTwo_99 : decode cX10_splitsTwo 99 = .ok (.laload, 1) := by decide +kernel
theorem dX10_splitsTwo_100 : decode cX10_splitsTwo 100 = .ok (.aload_n 0, 1) := by decide +kernel
theorem dX10_splitsTwo_101 : decode cX10_splitsTwo 101 = .ok (.iload_n 3, 1) := by decide +kernel
theorem dX10_splitsTwo_102 : decode cX10_splitsTwo 102 = .ok (.iconst 0, 1) := by decide +kernel
theorem dX10_splitsTwo_103 : decode cX10_splitsTwo 103 = .ok (.invokevirtual 286, 3) := by decide +kernel
theorem dX10_splitsTwo_106 : decode cX10_splitsTwo 106 = .ok (.invokestatic 290, 3) := by decide +kernel
theorem dX10_splitsTwo_109 : decode cX10_splitsTwo 109 = .ok (.lstore 9, 2) := by decide +kernel
theorem dX10_splitsTwo_111 : decode cX10_splitsTwo 111 = .ok (.aload_n 0, 1) := by decide +kernel
theorem dX10_splitsTwo_112 : decode cX10_splitsTwo 112 = .ok (.getfield 80, 3) := by decide +kernel
theorem dX10_splitsTwo_115 : decode cX10_splitsTwo 115 = .ok (.iload 6, 2) := by decide +kernel
theorem dX10_splitsTwo_117 : decode cX10_splitsTwo 117 = .ok (.lload 7, 2) := by decide +kernel
theorem dX10_splitsTwo_119 : decode cX10_splitsTwo 119 = .ok (.lload 9, 2) := by decide +kernel
theorem dX10_splitsTwo_121 : decode cX10_splitsTwo 121 = .ok (.ladd, 1) := by decide +kernel
theorem dX10_splitsTwo_122 : decode cX10_splitsTwo 122 = .ok (.lastore, 1) := by decide +kernel
theorem dX10_splitsTwo_123 : decode cX10_splitsTwo 123 = .ok (.aload_n 0, 1) := by decide +kernel
theorem dX10_splitsTwo_124 : decode cX10_splitsTwo 124 = .ok (.getfield 77, 3) := by decide +kernel
theorem dX10_splitsTwo_127 : decode cX10_splitsTwo 127 = .ok (.iload 6, 2) := by decide +kernel
theorem dX10_splitsTwo_129 : decode cX10_splitsTwo 129 = .ok (.aload_n 0, 1) := by decide +kernel
theorem dX10_splitsTwo_130 : decode cX10_splitsTwo 130 = .ok (.getfield 74, 3) := by decide +kernel
theorem dX10_splitsTwo_133 : decode cX10_splitsTwo 133 = .ok (.iload 6, 2) := by decide +kernel
theorem dX10_splitsTwo_135 : decode cX10_splitsTwo 135 = .ok (.laload, 1) := by decide +kernel
theorem dX10_splitsTwo_136 : decode cX10_splitsTwo 136 = .ok (.lload 7, 2) := by decide +kernel
theorem dX10_splitsTwo_138 : decode cX10_splitsTwo 138 = .ok (.lsub, 1) := by decide +kernel
theorem dX10_splitsTwo_139 : decode cX10_splitsTwo 139 = .ok (.aload_n 0, 1) := by decide +kernel
theorem dX10_splitsTwo_140 : decode cX10_splitsTwo 140 = .ok (.getfield 77, 3) := by decide +kernel
theorem dX10_splitsTwo_143 : decode cX10_splitsTwo 143 = .ok (.iload 6, 2) := by decide +kernel
theorem dX10_splitsTwo_145 : decode cX10_splitsTwo 145 = .ok (.laload, 1) := by decide +kernel
theorem dX10_splitsTwo_146 : decode cX10_splitsTwo 146 = .ok (.ladd, 1) := by decide +kernel
theorem dX10_splitsTwo_147 : decode cX10_splitsTwo 147 = .ok (.lload 9, 2) := by decide +kernel
theorem dX10_splitsTwo_149 : decode cX10_splitsTwo 149 = .ok (.lsub, 1) := by decide +kernel
theorem dX10_splitsTwo_150 : decode cX10_splitsTwo 150 = .ok (.lastore, 1) := by decide +kernel
theorem dX10_splitsTwo_151 : decode cX10_splitsTwo 151 = .ok (.aload_n 0, 1) := by decide +kernel
theorem dX10_splitsTwo_152 : decode cX10_splitsTwo 152 = .ok (.getfield 74, 3) := by decide +kernel
theorem dX10_splitsTwo_155 : decode cX10_splitsTwo 155 = .ok (.iload 6, 2) := by decide +kernel
theorem dX10_splitsTwo_157 : decode cX10_splitsTwo 157 = .ok (.lconst 0, 1) := by decide +kernel
theorem dX10_splitsTwo_158 : decode cX10_splitsTwo 158 = .ok (.lastore, 1) := by decide +kernel
theorem dX10_splitsTwo_159 : decode cX10_splitsTwo 159 = .ok (.iinc 5 1, 3) := by decide +kernel
theorem dX10_splitsTwo_162 : decode cX10_splitsTwo 162 = .ok (.goto (-102), 3) := by decide +kernel
theorem dX10_splitsTwo_9 : decode cX10_splitsTwo 9 = .ok (.aload_n 0, 1) := by decide +kernel
theorem dX10_splitsTwo_10 : decode cX10_splitsTwo 10 = .ok (.getfield 74, 3) := by decide +kernel
theorem dX10_splitsTwo_13 : decode cX10_splitsTwo 13 = .ok (.iload_n 3, 1) := by decide +kernel
theorem dX10_splitsTwo_14 : decode cX10_splitsTwo 14 = .ok (.lconst 0, 1) := by decide +kernel
theorem dX10_splitsTwo_15 : decode cX10_splitsTwo 15 = .ok (.lastore, 1) := by decide +kernel
theorem dX10_splitsTwo_16 : decode cX10_splitsTwo 16 = .ok (.aload_n 0, 1) := by decide +kernel
theorem dX10_splitsTwo_17 : decode cX10_splitsTwo 17 = .ok (.getfield 77, 3) := by decide +kernel
theorem dX10_splitsTwo_20 : decode cX10_splitsTwo 20 = .ok (.iload_n 3, 1) := by decide +kernel
theorem dX10_splitsTwo_21 : decode cX10_splitsTwo 21 = .ok (.lconst 0, 1) := by decide +kernel
theorem dX10_splitsTwo_22 : decode cX10_splitsTwo 22 = .ok (.lastore, 1) := by decide +kernel
theorem dX10_splitsTwo_23 : decode cX10_splitsTwo 23 = .ok (.iinc 3 1, 3) := by decide +kernel
theorem dX10_splitsTwo_26 : decode cX10_splitsTwo 26 = .ok (.goto (-24), 3) := by decide +kernel
theorem dX10_fallsOn_0 : decode cX10_fallsOn 0 = .ok (.iconst 0, 1) := by decide +kernel
theorem dX10_fallsOn_1 : decode cX10_fallsOn 1 = .ok (.istore_n 3, 1) := by decide +kernel
theorem dX10_fallsOn_2 : decode cX10_fallsOn 2 = .ok (.iload_n 3, 1) := by decide +kernel
theorem dX10_fallsOn_3 : decode cX10_fallsOn 3 = .ok (.iload_n 2, 1) := by decide +kernel
theorem dX10_fallsOn_4 : decode cX10_fallsOn 4 = .ok (.if_icmp .ge 30, 3) := by decide +kernel
theorem dX10_fallsOn_34 : decode cX10_fallsOn 34 = .ok (.iconst 0, 1) := by decide +kernel
theorem dX10_fallsOn_35 : decode cX10_fallsOn 35 = .ok (.istore_n 3, 1) := by decide +kernel
theorem dX10_fallsOn_36 : decode cX10_fallsOn 36 = .ok (.iload_n 3, 1) := by decide +kernel
theorem dX10_fallsOn_37 : decode cX10_fallsOn 37 = .ok (.aload_n 0, 1) := by decide +kernel
theorem dX10_fallsOn_38 : decode cX10_fallsOn 38 = .ok (.getfield 43, 3) := by decide +kernel
theorem dX10_fallsOn_41 : decode cX10_fallsOn 41 = .ok (.iconst 0, 1) := by decide +kernel
theorem dX10_fallsOn_42 : decode cX10_fallsOn 42 = .ok (.iaload, 1) := by decide +kernel
theorem dX10_fallsOn_43 : decode cX10_fallsOn 43 = .ok (.if_icmp .ge 103, 3) := by decide +kernel
theorem dX10_fallsOn_146 : decode cX10_fallsOn 146 = .ok (.iconst 0, 1) := by decide +kernel
theorem dX10_fallsOn_147 : decode cX10_fallsOn 147 = .ok (.istore_n 3, 1) := by decide +kernel
theorem dX10_fallsOn_148 : decode cX10_fallsOn 148 = .ok (.iload_n 3, 1) := by decide +kernel
theorem dX10_fallsOn_149 : decode cX10_fallsOn 149 = .ok (.iload_n 2, 1) := by decide +kernel
theorem dX10_fallsOn_150 : decode cX10_fallsOn 150 = .ok (.if_icmp .ge 24, 3) := by decide +kernel
theorem dX10_fallsOn_174 : decode cX10_fallsOn 174 = .ok (.return_, 1) := by decide +kernel
theorem dX10_fallsOn_153 : decode cX10_fallsOn 153 = .ok (.aload_n 0, 1) := by decide +kernel
theorem dX10_fallsOn_154 : decode cX10_fallsOn 154 = .ok (.getfield 83, 3) := by decide +kernel
theorem dX10_fallsOn_157 : decode cX10_fallsOn 157 = .ok (.iload_n 3, 1) := by decide +kernel
theorem dX10_fallsOn_158 : decode cX10_fallsOn 158 = .ok (.dup2, 1) := by decide +kernel
theorem dX10_fallsOn_159 : decode cX10_fallsOn 159 = .ok (.laload, 1) := by decide +kernel
theorem dX10_fallsOn_160 : decode cX10_fallsOn 160 = .ok (.aload_n 0, 1) := by decide +kernel
theorem dX10_fallsOn_161 : decode cX10_fallsOn 161 = .ok (.getfield 89, 3) := by decide +kernel
theorem dX10_fallsOn_164 : decode cX10_fallsOn 164 = .ok (.iload_n 3, 1) := by decide +kernel
theorem dX10_fallsOn_165 : decode cX10_fallsOn 165 = .ok (.laload, 1) := by decide +kernel
theorem dX10_fallsOn_166 : decode cX10_fallsOn 166 = .ok (.ladd, 1) := by decide +kernel
theorem dX10_fallsOn_167 : decode cX10_fallsOn 167 = .ok (.lastore, 1) := by decide +kernel
theorem dX10_fallsOn_168 : decode cX10_fallsOn 168 = .ok (.iinc 3 1, 3) := by decide +kernel
theorem dX10_fallsOn_171 : decode cX10_fallsOn 171 = .ok (.goto (-23), 3) := by decide +kernel
theorem dX10_fallsOn_46 : decode cX10_fallsOn 46 = .ok (.iload_n 1, 1) := by decide +kernel
theorem dX10_fallsOn_47 : decode cX10_fallsOn 47 = .ok (.iload_n 3, 1) := by decide +kernel
theorem dX10_fallsOn_48 : decode cX10_fallsOn 48 = .ok (.ishr, 1) := by decide +kernel
theorem dX10_fallsOn_49 : decode cX10_fallsOn 49 = .ok (.iconst 1, 1) := by decide +kernel
theorem dX10_fallsOn_50 : decode cX10_fallsOn 50 = .ok (.iand, 1) := by decide +kernel
theorem dX10_fallsOn_51 : decode cX10_fallsOn 51 = .ok (.iconst 1, 1) := by decide +kernel
theorem dX10_fallsOn_52 : decode cX10_fallsOn 52 = .ok (.if_icmp .ne 6, 3) := by decide +kernel
theorem dX10_fallsOn_58 : decode cX10_fallsOn 58 = .ok (.iconst 0, 1) := by decide +kernel
theorem dX10_fallsOn_59 : decode cX10_fallsOn 59 = .ok (.istore 4, 2) := by decide +kernel
theorem dX10_fallsOn_61 : decode cX10_fallsOn 61 = .ok (.iload 4, 2) := by decide +kernel
theorem dX10_fallsOn_63 : decode cX10_fallsOn 63 = .ok (.iload_n 2, 1) := by decide +kernel
theorem dX10_fallsOn_64 : decode cX10_fallsOn 64 = .ok (.if_icmp .ge 76, 3) := by decide +kernel
theorem dX10_fallsOn_140 : decode cX10_fallsOn 140 = .ok (.iinc 3 1, 3) := by decide +kernel
theorem dX10_fallsOn_143 : decode cX10_fallsOn 143 = .ok (.goto (-107), 3) := by decide +kernel
theorem dX10_fallsOn_67 : decode cX10_fallsOn 67 = .ok (.iload 4, 2) := by decide +kernel
theorem dX10_fallsOn_69 : decode cX10_fallsOn 69 = .ok (.iload_n 3, 1) := by decide +kernel
theorem dX10_fallsOn_70 : decode cX10_fallsOn 70 = .ok (.ishr, 1) := by decide +kernel
theorem dX10_fallsOn_71 : decode cX10_fallsOn 71 = .ok (.iconst 1, 1) := by decide +kernel
theorem dX10_fallsOn_72 : decode cX10_fallsOn 72 = .ok (.iand, 1) := by decide +kernel
theorem dX10_fallsOn_73 : decode cX10_fallsOn 73 = .ok (.iconst 1, 1) := by decide +kernel
theorem dX10_fallsOn_74 : decode cX10_fallsOn 74 = .ok (.if_icmp .eq 60, 3) := by decide +kernel
theorem dX10_fallsOn_134 : decode cX10_fallsOn 134 = .ok (.iinc 4 1, 3) := by decide +kernel
theorem dX10_fallsOn_137 : decode cX10_fallsOn 137 = .ok (.goto (-76), 3) := by decide +kernel
theorem dX10_fallsOn_77 : decode cX10_fallsOn 77 = .ok (.aload_n 0, 1) := by decide +kernel
theorem dX10_fallsOn_78 : decode cX10_fallsOn 78 = .ok (.getfield 89, 3) := by decide +kernel
theorem dX10_fallsOn_81 : decode cX10_fallsOn 81 = .ok (.iload 4, 2) := by decide +kernel
theorem dX10_fallsOn_83 : decode cX10_fallsOn 83 = .ok (.laload, 1) := by decide +kernel
theorem dX10_fallsOn_84 : decode cX10_fallsOn 84 = .ok (.lconst 0, 1) := by decide +kernel
theorem dX10_fallsOn_85 : decode cX10_fallsOn 85 = .ok (.lcmp, 1) := by decide +kernel
theorem dX10_fallsOn_86 : decode cX10_fallsOn 86 = .ok (.ifCond .ne 6, 3) := by decide +kernel
theorem dX10_fallsOn_92 : decode cX10_fallsOn 92 = .ok (.aload_n 0, 1) := by decide +kernel
theorem dX10_fallsOn_93 : decode cX10_fallsOn 93 = .ok (.getfield 89, 3) := by decide +kernel
theorem dX10_fallsOn_96 : decode cX10_fallsOn 96 = .ok (.iload 4, 2) := by decide +kernel
theorem dX10_fallsOn_98 : decode cX10_fallsOn 98 = .ok (.laload, 1) := by decide +kernel
theorem dX10_fallsOn_99 : decode cX10_fallsOn 99 = .ok (.aload_n 0, 1) := by decide +kernel
theorem dX10_fallsOn_100 : decode cX10_fallsOn 100 = .ok (.iload_n 3, 1) := by decide +kernel
theorem dX10_fallsOn_101 : decode cX10_fallsOn 101 = .ok (.invokevirtual 293, 3) := by decide +kernel
theorem dX10_fallsOn_104 : decode cX10_fallsOn 104 = .ok (.invokestatic 290, 3) := by decide +kernel
theorem dX10_fallsOn_107 : decode cX10_fallsOn 107 = .ok (.lstore 5, 2) := by decide +kernel
theorem dX10_fallsOn_109 : decode cX10_fallsOn 109 = .ok (.aload_n 0, 1) := by decide +kernel
theorem dX10_fallsOn_110 : decode cX10_fallsOn 110 = .ok (.getfield 89, 3) := by decide +kernel
theorem dX10_fallsOn_113 : decode cX10_fallsOn 113 = .ok (.iload 4, 2) := by decide +kernel
theorem dX10_fallsOn_115 : decode cX10_fallsOn 115 = .ok (.iconst 1, 1) := by decide +kernel
theorem dX10_fallsOn_116 : decode cX10_fallsOn 116 = .ok (.iload_n 3, 1) := by decide +kernel
theorem dX10_fallsOn_117 : decode cX10_fallsOn 117 = .ok (.ishl, 1) := by decide +kernel
theorem dX10_fallsOn_118 : decode cX10_fallsOn 118 = .ok (.ior, 1) := by decide +kernel
theorem dX10_fallsOn_119 : decode cX10_fallsOn 119 = .ok (.lload 5, 2) := by decide +kernel
theorem dX10_fallsOn_121 : decode cX10_fallsOn 121 = .ok (.lastore, 1) := by decide +kernel
theorem dX10_fallsOn_122 : decode cX10_fallsOn 122 = .ok (.aload_n 0, 1) := by decide +kernel
theorem dX10_fallsOn_123 : decode cX10_fallsOn 123 = .ok (.getfield 89, 3) := by decide +kernel
theorem dX10_fallsOn_126 : decode cX10_fallsOn 126 = .ok (.iload 4, 2) := by decide +kernel
theorem dX10_fallsOn_128 : decode cX10_fallsOn 128 = .ok (.dup2, 1) := by decide +kernel
theorem dX10_fallsOn_129 : decode cX10_fallsOn 129 = .ok (.laload, 1) := by decide +kernel
theorem dX10_fallsOn_130 : decode cX10_fallsOn 130 = .ok (.lload 5, 2) := by decide +kernel
theorem dX10_fallsOn_132 : decode cX10_fallsOn 132 = .ok (.lsub, 1) := by decide +kernel
theorem dX10_fallsOn_133 : decode cX10_fallsOn 133 = .ok (.lastore, 1) := by decide +kernel
theorem dX10_fallsOn_89 : decode cX10_fallsOn 89 = .ok (.goto 45, 3) := by decide +kernel
theorem dX10_fallsOn_55 : decode cX10_fallsOn 55 = .ok (.goto 85, 3) := by decide +kernel
theorem dX10_fallsOn_7 : decode cX10_fallsOn 7 = .ok (.aload_n 0, 1) := by decide +kernel
theorem dX10_fallsOn_8 : decode cX10_fallsOn 8 = .ok (.getfield 89, 3) := by decide +kernel
theorem dX10_fallsOn_11 : decode cX10_fallsOn 11 = .ok (.iload_n 3, 1) := by decide +kernel
theorem dX10_fallsOn_12 : decode cX10_fallsOn 12 = .ok (.iload_n 3, 1) := by decide +kernel
theorem dX10_fallsOn_13 : decode cX10_fallsOn 13 = .ok (.iload_n 1, 1) := by decide +kernel
theorem dX10_fallsOn_14 : decode cX10_fallsOn 14 = .ok (.if_icmp .ne 12, 3) := by decide +kernel
theorem dX10_fallsOn_26 : decode cX10_fallsOn 26 = .ok (.lconst 0, 1) := by decide +kernel
theorem dX10_fallsOn_27 : decode cX10_fallsOn 27 = .ok (.lastore, 1) := by decide +kernel
theorem dX10_fallsOn_28 : decode cX10_fallsOn 28 = .ok (.iinc 3 1, 3) := by decide +kernel
theorem dX10_fallsOn_31 : decode cX10_fallsOn 31 = .ok (.goto (-29), 3) := by decide +kernel
theorem dX10_fallsOn_17 : decode cX10_fallsOn 17 = .ok (.aload_n 0, 1) := by decide +kernel
theorem dX10_fallsOn_18 : decode cX10_fallsOn 18 = .ok (.getfield 80, 3) := by decide +kernel
theorem dX10_fallsOn_21 : decode cX10_fallsOn 21 = .ok (.iload_n 1, 1) := by decide +kernel
theorem dX10_fallsOn_22 : decode cX10_fallsOn 22 = .ok (.laload, 1) := by decide +kernel
theorem dX10_fallsOn_23 : decode cX10_fallsOn 23 = .ok (.goto 4, 3) := by decide +kernel
theorem dX10_splitsAll_0 : decode cX10_splitsAll 0 = .ok (.iconst 1, 1) := by decide +kernel
theorem dX10_splitsAll_1 : decode cX10_splitsAll 1 = .ok (.aload_n 0, 1) := by decide +kernel
theorem dX10_splitsAll_2 : decode cX10_splitsAll 2 = .ok (.getfield 43, 3) := by decide +kernel
theorem dX10_splitsAll_5 : decode cX10_splitsAll 5 = .ok (.iconst 0, 1) := by decide +kernel
theorem dX10_splitsAll_6 : decode cX10_splitsAll 6 = .ok (.iaload, 1) := by decide +kernel
theorem dX10_splitsAll_7 : decode cX10_splitsAll 7 = .ok (.ishl, 1) := by decide +kernel
theorem dX10_splitsAll_8 : decode cX10_splitsAll 8 = .ok (.istore_n 2, 1) := by decide +kernel
theorem dX10_splitsAll_9 : decode cX10_splitsAll 9 = .ok (.iconst 0, 1) := by decide +kernel
theorem dX10_splitsAll_10 : decode cX10_splitsAll 10 = .ok (.istore_n 3, 1) := by decide +kernel
theorem dX10_splitsAll_11 : decode cX10_splitsAll 11 = .ok (.iload_n 3, 1) := by decide +kernel
theorem dX10_splitsAll_12 : decode cX10_splitsAll 12 = .ok (.iload_n 2, 1) := by decide +kernel
theorem dX10_splitsAll_13 : decode cX10_splitsAll 13 = .ok (.if_icmp .ge 33, 3) := by decide +kernel
theorem dX10_splitsAll_46 : decode cX10_splitsAll 46 = .ok (.iconst 1, 1) := by decide +kernel
theorem dX10_splitsAll_47 : decode cX10_splitsAll 47 = .ok (.istore_n 3, 1) := by decide +kernel
theorem dX10_splitsAll_48 : decode cX10_splitsAll 48 = .ok (.iload_n 3, 1) := by decide +kernel
theorem dX10_splitsAll_49 : decode cX10_splitsAll 49 = .ok (.iload_n 1, 1) := by decide +kernel
theorem dX10_splitsAll_50 : decode cX10_splitsAll 50 = .ok (.if_icmp .gt 130, 3) := by decide +kernel
theorem dX10_splitsAll_180 : decode cX10_splitsAll 180 = .ok (.return_, 1) := by decide +kernel
theorem dX10_splitsAll_53 : decode cX10_splitsAll 53 = .ok (.iconst 0, 1) := by decide +kernel
theorem dX10_splitsAll_54 : decode cX10_splitsAll 54 = .ok (.istore 4, 2) := by decide +kernel
theorem dX10_splitsAll_56 : decode cX10_splitsAll 56 = .ok (.iload 4, 2) := by decide +kernel
theorem dX10_splitsAll_58 : decode cX10_splitsAll 58 = .ok (.iload_n 2, 1) := by decide +kernel
theorem dX10_splitsAll_59 : decode cX10_splitsAll 59 = .ok (.if_icmp .ge 93, 3) := by decide +kernel
theorem dX10_splitsAll_152 : decode cX10_splitsAll 152 = .ok (.iconst 0, 1) := by decide +kernel
theorem dX10_splitsAll_153 : decode cX10_splitsAll 153 = .ok (.istore 4, 2) := by decide +kernel
theorem dX10_splitsAll_155 : decode cX10_splitsAll 155 = .ok (.iload 4, 2) := by decide +kernel
theorem dX10_splitsAll_157 : decode cX10_splitsAll 157 = .ok (.iload_n 2, 1) := by decide +kernel
theorem dX10_splitsAll_158 : decode cX10_splitsAll 158 = .ok (.if_icmp .ge 16, 3) := by decide +kernel
theorem dX10_splitsAll_174 : decode cX10_splitsAll 174 = .ok (.iinc 3 1, 3) := by decide +kernel
theorem dX10_splitsAll_177 : decode cX10_splitsAll 177 = .ok (.goto (-129), 3) := by decide +kernel
theorem dX10_splitsAll_161 : decode cX10_splitsAll 161 = .ok (.aload_n 0, 1) := by decide +kernel
theorem dX10_splitsAll_162 : decode cX10_splitsAll 162 = .ok (.iload 4, 2) := by decide +kernel
theorem dX10_splitsAll_164 : decode cX10_splitsAll 164 = .ok (.iload_n 2, 1) := by decide +kernel
theorem dX10_splitsAll_165 : decode cX10_splitsAll 165 = .ok (.invokevirtual 334, 3) := by decide +kernel
theorem dX10_splitsAll_168 : decode cX10_splitsAll 168 = .ok (.iinc 4 1, 3) := by decide +kernel
theorem dX10_splitsAll_171 : decode cX10_splitsAll 171 = .ok (.goto (-16), 3) := by decide +kernel
theorem dX10_splitsAll_62 : decode cX10_splitsAll 62 = .ok (.aload_n 0, 1) := by decide +kernel
theorem dX10_splitsAll_63 : decode cX10_splitsAll 63 = .ok (.getfield 83, 3) := by decide +kernel
theorem dX10_splitsAll_66 : decode cX10_splitsAll 66 = .ok (.iload 4, 2) := by decide +kernel
theorem dX10_splitsAll_68 : decode cX10_splitsAll 68 = .ok (.laload, 1) := by decide +kernel
theorem dX10_splitsAll_69 : decode cX10_splitsAll 69 = .ok (.aload_n 0, 1) := by decide +kernel
theorem dX10_splitsAll_70 : decode cX10_splitsAll 70 = .ok (.iload_n 3, 1) := by decide +kernel
theorem dX10_splitsAll_71 : decode cX10_splitsAll 71 = .ok (.iconst 1, 1) := by decide +kernel
theorem dX10_splitsAll_72 : decode cX10_splitsAll 72 = .ok (.invokevirtual 286, 3) := by decide +kernel
theorem dX10_splitsAll_75 : decode cX10_splitsAll 75 = .ok (.invokestatic 290, 3) := by decide +kernel
theorem dX10_splitsAll_78 : decode cX10_splitsAll 78 = .ok (.lstore 5, 2) := by decide +kernel
theorem dX10_splitsAll_80 : decode cX10_splitsAll 80 = .ok (.aload_n 0, 1) := by decide +kernel
theorem dX10_splitsAll_81 : decode cX10_splitsAll 81 = .ok (.getfield 86, 3) := by decide +kernel
theorem dX10_splitsAll_84 : decode cX10_splitsAll 84 = .ok (.iload 4, 2) := by decide +kernel
theorem dX10_splitsAll_86 : decode cX10_splitsAll 86 = .ok (.laload, 1) := by decide +kernel
theorem dX10_splitsAll_87 : decode cX10_splitsAll 87 = .ok (.aload_n 0, 1) := by decide +kernel
theorem dX10_splitsAll_88 : decode cX10_splitsAll 88 = .ok (.iload_n 3, 1) := by decide +kernel
theorem dX10_splitsAll_89 : decode cX10_splitsAll 89 = .ok (.iconst 0, 1) := by decide +kernel
theorem dX10_splitsAll_90 : decode cX10_splitsAll 90 = .ok (.invokevirtual 286, 3) := by decide +kernel
theorem dX10_splitsAll_93 : decode cX10_splitsAll 93 = .ok (.invokestatic 290, 3) := by decide +kernel
theorem dX10_splitsAll_96 : decode cX10_splitsAll 96 = .ok (.lstore 7, 2) := by decide +kernel
theorem dX10_splitsAll_98 : decode cX10_splitsAll 98 = .ok (.aload_n 0, 1) := by decide +kernel
theorem dX10_splitsAll_99 : decode cX10_splitsAll 99 = .ok (.getfield 80, 3) := by decide +kernel
theorem dX10_splitsAll_102 : decode cX10_splitsAll 102 = .ok (.iload 4, 2) := by decide +kernel
theorem dX10_splitsAll_104 : decode cX10_splitsAll 104 = .ok (.lload 5, 2) := by decide +kernel
theorem dX10_splitsAll_106 : decode cX10_splitsAll 106 = .ok (.lload 7, 2) := by decide +kernel
theorem dX10_splitsAll_108 : decode cX10_splitsAll 108 = .ok (.ladd, 1) := by decide +kernel
theorem dX10_splitsAll_109 : decode cX10_splitsAll 109 = .ok (.lastore, 1) := by decide +kernel
theorem dX10_splitsAll_110 : decode cX10_splitsAll 110 = .ok (.aload_n 0, 1) := by decide +kernel
theorem dX10_splitsAll_111 : decode cX10_splitsAll 111 = .ok (.getfield 86, 3) := by decide +kernel
theorem dX10_splitsAll_114 : decode cX10_splitsAll 114 = .ok (.iload 4, 2) := by decide +kernel
theorem dX10_splitsAll_116 : decode cX10_splitsAll 116 = .ok (.aload_n 0, 1) := by decide +kernel
theorem dX10_splitsAll_117 : decode cX10_splitsAll 117 = .ok (.getfield 83, 3) := by decide +kernel
theorem dX10_splitsAll_120 : decode cX10_splitsAll 120 = .ok (.iload 4, 2) := by decide +kernel
theorem dX10_splitsAll_122 : decode cX10_splitsAll 122 = .ok (.laload, 1) := by decide +kernel
theorem dX10_splitsAll_123 : decode cX10_splitsAll 123 = .ok (.lload 5, 2) := by decide +kernel
theorem dX10_splitsAll_125 : decode cX10_splitsAll 125 = .ok (.lsub, 1) := by decide +kernel
theorem dX10_splitsAll_126 : decode cX10_splitsAll 126 = .ok (.aload_n 0, 1) := by decide +kernel
theorem dX10_splitsAll_127 : decode cX10_splitsAll 127 = .ok (.getfield 86, 3) := by decide +kernel
theorem dX10_splitsAll_130 : decode cX10_splitsAll 130 = .ok (.iload 4, 2) := by decide +kernel
theorem dX10_splitsAll_132 : decode cX10_splitsAll 132 = .ok (.laload, 1) := by decide +kernel
theorem dX10_splitsAll_133 : decode cX10_splitsAll 133 = .ok (.ladd, 1) := by decide +kernel
theorem dX10_splitsAll_134 : decode cX10_splitsAll 134 = .ok (.lload 7, 2) := by decide +kernel
theorem dX10_splitsAll_136 : decode cX10_splitsAll 136 = .ok (.lsub, 1) := by decide +kernel
theorem dX10_splitsAll_137 : decode cX10_splitsAll 137 = .ok (.lastore, 1) := by decide +kernel
theorem dX10_splitsAll_138 : decode cX10_splitsAll 138 = .ok (.aload_n 0, 1) := by decide +kernel
theorem dX10_splitsAll_139 : decode cX10_splitsAll 139 = .ok (.getfield 83, 3) := by decide +kernel
theorem dX10_splitsAll_142 : decode cX10_splitsAll 142 = .ok (.iload 4, 2) := by decide +kernel
theorem dX10_splitsAll_144 : decode cX10_splitsAll 144 = .ok (.lconst 0, 1) := by decide +kernel
theorem dX10_splitsAll_145 : decode cX10_splitsAll 145 = .ok (.lastore, 1) := by decide +kernel
theorem dX10_splitsAll_146 : decode cX10_splitsAll 146 = .ok (.iinc 4 1, 3) := by decide +kernel
theorem dX10_splitsAll_149 : decode cX10_splitsAll 149 = .ok (.goto (-93), 3) := by decide +kernel
theorem dX10_splitsAll_16 : decode cX10_splitsAll 16 = .ok (.aload_n 0, 1) := by decide +kernel
theorem dX10_splitsAll_17 : decode cX10_splitsAll 17 = .ok (.getfield 83, 3) := by decide +kernel
theorem dX10_splitsAll_20 : decode cX10_splitsAll 20 = .ok (.iload_n 3, 1) := by decide +kernel
theorem dX10_splitsAll_21 : decode cX10_splitsAll 21 = .ok (.lconst 0, 1) := by decide +kernel
theorem dX10_splitsAll_22 : decode cX10_splitsAll 22 = .ok (.lastore, 1) := by decide +kernel
theorem dX10_splitsAll_23 : decode cX10_splitsAll 23 = .ok (.aload_n 0, 1) := by decide +kernel
theorem dX10_splitsAll_24 : decode cX10_splitsAll 24 = .ok (.getfield 86, 3) := by decide +kernel
theorem dX10_splitsAll_27 : decode cX10_splitsAll 27 = .ok (.iload_n 3, 1) := by decide +kernel
theorem dX10_splitsAll_28 : decode cX10_splitsAll 28 = .ok (.iload_n 3, 1) := by decide +kernel
theorem dX10_splitsAll_29 : decode cX10_splitsAll 29 = .ok (.ifCond .ne 9, 3) := by decide +kernel
theorem dX10_splitsAll_38 : decode cX10_splitsAll 38 = .ok (.lconst 0, 1) := by decide +kernel
theorem dX10_splitsAll_39 : decode cX10_splitsAll 39 = .ok (.lastore, 1) := by decide +kernel
theorem dX10_splitsAll_40 : decode cX10_splitsAll 40 = .ok (.iinc 3 1, 3) := by decide +kernel
theorem dX10_splitsAll_43 : decode cX10_splitsAll 43 = .ok (.goto (-32), 3) := by decide +kernel
theorem dX10_splitsAll_32 : decode cX10_splitsAll 32 = .ok (.ldc2_w 284, 3) := by decide +kernel
theorem dX10_splitsAll_35 : decode cX10_splitsAll 35 = .ok (.goto 4, 3) := by decide +kernel
theorem dX10_sizeOf_0 : decode cX10_sizeOf 0 = .ok (.iconst 0, 1) := by decide +kernel
theorem dX10_sizeOf_1 : decode cX10_sizeOf 1 = .ok (.istore_n 1, 1) := by decide +kernel
theorem dX10_sizeOf_2 : decode cX10_sizeOf 2 = .ok (.iload_n 0, 1) := by decide +kernel
theorem dX10_sizeOf_3 : decode cX10_sizeOf 3 = .ok (.istore_n 2, 1) := by decide +kernel
theorem dX10_sizeOf_4 : decode cX10_sizeOf 4 = .ok (.iload_n 2, 1) := by decide +kernel
theorem dX10_sizeOf_5 : decode cX10_sizeOf 5 = .ok (.ifCond .eq 15, 3) := by decide +kernel
theorem dX10_sizeOf_20 : decode cX10_sizeOf 20 = .ok (.iload_n 1, 1) := by decide +kernel
theorem dX10_sizeOf_21 : decode cX10_sizeOf 21 = .ok (.ireturn, 1) := by decide +kernel
theorem dX10_sizeOf_8 : decode cX10_sizeOf 8 = .ok (.iinc 1 1, 3) := by decide +kernel
theorem dX10_sizeOf_11 : decode cX10_sizeOf 11 = .ok (.iload_n 2, 1) := by decide +kernel
theorem dX10_sizeOf_12 : decode cX10_sizeOf 12 = .ok (.iload_n 2, 1) := by decide +kernel
theorem dX10_sizeOf_13 : decode cX10_sizeOf 13 = .ok (.iconst 1, 1) := by decide +kernel
theorem dX10_sizeOf_14 : decode cX10_sizeOf 14 = .ok (.isub, 1) := by decide +kernel
theorem dX10_sizeOf_15 : decode cX10_sizeOf 15 = .ok (.iand, 1) := by decide +kernel
theorem dX10_sizeOf_16 : decode cX10_sizeOf 16 = .ok (.istore_n 2, 1) := by decide +kernel
theorem dX10_sizeOf_17 : decode cX10_sizeOf 17 = .ok (.goto (-13), 3) := by decide +kernel
theorem dX10_shuts_0 : decode cX10_shuts 0 = .ok (.aload_n 0, 1) := by decide +kernel
theorem dX10_shuts_1 : decode cX10_shuts 1 = .ok (.iconst 0, 1) := by decide +kernel
theorem dX10_shuts_2 : decode cX10_shuts 2 = .ok (.putfield 111, 3) := by decide +kernel
theorem dX10_shuts_5 : decode cX10_shuts 5 = .ok (.aload_n 0, 1) := by decide +kernel
theorem dX10_shuts_6 : decode cX10_shuts 6 = .ok (.iload_n 1, 1) := by decide +kernel
theorem dX10_shuts_7 : decode cX10_shuts 7 = .ok (.invokevirtual 297, 3) := by decide +kernel
theorem dX10_shuts_10 : decode cX10_shuts 10 = .ok (.ifCond .eq 17, 3) := by decide +kernel
theorem dX10_shuts_13 : decode cX10_shuts 13 = .ok (.iload_n 2, 1) := by decide +kernel
theorem dX10_shuts_14 : decode cX10_shuts 14 = .ok (.i2l, 1) := by decide +kernel
theorem dX10_shuts_15 : decode cX10_shuts 15 = .ok (.lconst 0, 1) := by decide +kernel
theorem dX10_shuts_16 : decode cX10_shuts 16 = .ok (.aload_n 0, 1) := by decide +kernel
theorem dX10_shuts_17 : decode cX10_shuts 17 = .ok (.invokevirtual 278, 3) := by decide +kernel
theorem dX10_shuts_20 : decode cX10_shuts 20 = .ok (.i2l, 1) := by decide +kernel
theorem dX10_shuts_21 : decode cX10_shuts 21 = .ok (.invokestatic 116, 3) := by decide +kernel
theorem dX10_shuts_24 : decode cX10_shuts 24 = .ok (.ifCond .ne 7, 3) := by decide +kernel
theorem dX10_shuts_31 : decode cX10_shuts 31 = .ok (.aload_n 0, 1) := by decide +kernel
theorem dX10_shuts_32 : decode cX10_shuts 32 = .ok (.iload_n 1, 1) := by decide +kernel
theorem dX10_shuts_33 : decode cX10_shuts 33 = .ok (.invokevirtual 302, 3) := by decide +kernel
theorem dX10_shuts_36 : decode cX10_shuts 36 = .ok (.aload_n 0, 1) := by decide +kernel
theorem dX10_shuts_37 : decode cX10_shuts 37 = .ok (.getfield 71, 3) := by decide +kernel
theorem dX10_shuts_40 : decode cX10_shuts 40 = .ok (.iload_n 2, 1) := by decide +kernel
theorem dX10_shuts_41 : decode cX10_shuts 41 = .ok (.laload, 1) := by decide +kernel
theorem dX10_shuts_42 : decode cX10_shuts 42 = .ok (.lreturn, 1) := by decide +kernel
theorem dX10_shuts_27 : decode cX10_shuts 27 = .ok (.ldc2_w 300, 3) := by decide +kernel
theorem dX10_shuts_30 : decode cX10_shuts 30 = .ok (.lreturn, 1) := by decide +kernel
theorem dX10_by_0 : decode cX10_by 0 = .ok (.aload_n 0, 1) := by decide +kernel
theorem dX10_by_1 : decode cX10_by 1 = .ok (.iconst 0, 1) := by decide +kernel
theorem dX10_by_2 : decode cX10_by 2 = .ok (.putfield 111, 3) := by decide +kernel
theorem dX10_by_5 : decode cX10_by 5 = .ok (.aload_n 0, 1) := by decide +kernel
theorem dX10_by_6 : decode cX10_by 6 = .ok (.iload_n 1, 1) := by decide +kernel
theorem dX10_by_7 : decode cX10_by 7 = .ok (.invokevirtual 297, 3) := by decide +kernel
theorem dX10_by_10 : decode cX10_by 10 = .ok (.ifCond .eq 11, 3) := by decide +kernel
theorem dX10_by_13 : decode cX10_by 13 = .ok (.aload_n 0, 1) := by decide +kernel
theorem dX10_by_14 : decode cX10_by 14 = .ok (.iload_n 2, 1) := by decide +kernel
theorem dX10_by_15 : decode cX10_by 15 = .ok (.invokevirtual 305, 3) := by decide +kernel
theorem dX10_by_18 : decode cX10_by 18 = .ok (.ifCond .ne 7, 3) := by decide +kernel
theorem dX10_by_25 : decode cX10_by 25 = .ok (.aload_n 0, 1) := by decide +kernel
theorem dX10_by_26 : decode cX10_by 26 = .ok (.iload_n 1, 1) := by decide +kernel
theorem dX10_by_27 : decode cX10_by 27 = .ok (.invokevirtual 302, 3) := by decide +kernel
theorem dX10_by_30 : decode cX10_by 30 = .ok (.aload_n 0, 1) := by decide +kernel
theorem dX10_by_31 : decode cX10_by 31 = .ok (.iload_n 2, 1) := by decide +kernel
theorem dX10_by_32 : decode cX10_by 32 = .ok (.invokevirtual 308, 3) := by decide +kernel
theorem dX10_by_35 : decode cX10_by 35 = .ok (.lreturn, 1) := by decide +kernel
theorem dX10_by_21 : decode cX10_by 21 = .ok (.ldc2_w 300, 3) := by decide +kernel
theorem dX10_by_24 : decode cX10_by 24 = .ok (.lreturn, 1) := by decide +kernel
theorem dX10_both_0 : decode cX10_both 0 = .ok (.aload_n 0, 1) := by decide +kernel
theorem dX10_both_1 : decode cX10_both 1 = .ok (.iconst 0, 1) := by decide +kernel
theorem dX10_both_2 : decode cX10_both 2 = .ok (.putfield 111, 3) := by decide +kernel
theorem dX10_both_5 : decode cX10_both 5 = .ok (.aload_n 0, 1) := by decide +kernel
theorem dX10_both_6 : decode cX10_both 6 = .ok (.iload_n 1, 1) := by decide +kernel
theorem dX10_both_7 : decode cX10_both 7 = .ok (.iload_n 3, 1) := by decide +kernel
theorem dX10_both_8 : decode cX10_both 8 = .ok (.invokevirtual 323, 3) := by decide +kernel
theorem dX10_both_11 : decode cX10_both 11 = .ok (.ifCond .eq 32, 3) := by decide +kernel
theorem dX10_both_14 : decode cX10_both 14 = .ok (.iload_n 2, 1) := by decide +kernel
theorem dX10_both_15 : decode cX10_both 15 = .ok (.i2l, 1) := by decide +kernel
theorem dX10_both_16 : decode cX10_both 16 = .ok (.lconst 0, 1) := by decide +kernel
theorem dX10_both_17 : decode cX10_both 17 = .ok (.aload_n 0, 1) := by decide +kernel
theorem dX10_both_18 : decode cX10_both 18 = .ok (.invokevirtual 278, 3) := by decide +kernel
theorem dX10_both_21 : decode cX10_both 21 = .ok (.i2l, 1) := by decide +kernel
theorem dX10_both_22 : decode cX10_both 22 = .ok (.invokestatic 116, 3) := by decide +kernel
theorem dX10_both_25 : decode cX10_both 25 = .ok (.ifCond .eq 18, 3) := by decide +kernel
theorem dX10_both_28 : decode cX10_both 28 = .ok (.iload 4, 2) := by decide +kernel
theorem dX10_both_30 : decode cX10_both 30 = .ok (.i2l, 1) := by decide +kernel
theorem dX10_both_31 : decode cX10_both 31 = .ok (.lconst 0, 1) := by decide +kernel
theorem dX10_both_32 : decode cX10_both 32 = .ok (.aload_n 0, 1) := by decide +kernel
theorem dX10_both_33 : decode cX10_both 33 = .ok (.invokevirtual 278, 3) := by decide +kernel
theorem dX10_both_36 : decode cX10_both 36 = .ok (.i2l, 1) := by decide +kernel
theorem dX10_both_37 : decode cX10_both 37 = .ok (.invokestatic 116, 3) := by decide +kernel
theorem dX10_both_40 : decode cX10_both 40 = .ok (.ifCond .ne 7, 3) := by decide +kernel
theorem dX10_both_47 : decode cX10_both 47 = .ok (.aload_n 0, 1) := by decide +kernel
theorem dX10_both_48 : decode cX10_both 48 = .ok (.iload_n 1, 1) := by decide +kernel
theorem dX10_both_49 : decode cX10_both 49 = .ok (.iload_n 3, 1) := by decide +kernel
theorem dX10_both_50 : decode cX10_both 50 = .ok (.invokevirtual 327, 3) := by decide +kernel
theorem dX10_both_53 : decode cX10_both 53 = .ok (.aload_n 0, 1) := by decide +kernel
theorem dX10_both_54 : decode cX10_both 54 = .ok (.iload_n 2, 1) := by decide +kernel
theorem dX10_both_55 : decode cX10_both 55 = .ok (.iload 4, 2) := by decide +kernel
theorem dX10_both_57 : decode cX10_both 57 = .ok (.invokevirtual 330, 3) := by decide +kernel
theorem dX10_both_60 : decode cX10_both 60 = .ok (.lreturn, 1) := by decide +kernel
theorem dX10_both_43 : decode cX10_both 43 = .ok (.ldc2_w 300, 3) := by decide +kernel
theorem dX10_both_46 : decode cX10_both 46 = .ok (.lreturn, 1) := by decide +kernel
theorem dX10_together_0 : decode cX10_together 0 = .ok (.aload_n 0, 1) := by decide +kernel
theorem dX10_together_1 : decode cX10_together 1 = .ok (.iconst 0, 1) := by decide +kernel
theorem dX10_together_2 : decode cX10_together 2 = .ok (.putfield 111, 3) := by decide +kernel
theorem dX10_together_5 : decode cX10_together 5 = .ok (.aload_n 0, 1) := by decide +kernel
theorem dX10_together_6 : decode cX10_together 6 = .ok (.iload_n 1, 1) := by decide +kernel
theorem dX10_together_7 : decode cX10_together 7 = .ok (.invokevirtual 305, 3) := by decide +kernel
theorem dX10_together_10 : decode cX10_together 10 = .ok (.ifCond .eq 19, 3) := by decide +kernel
theorem dX10_together_13 : decode cX10_together 13 = .ok (.iload_n 2, 1) := by decide +kernel
theorem dX10_together_14 : decode cX10_together 14 = .ok (.i2l, 1) := by decide +kernel
theorem dX10_together_15 : decode cX10_together 15 = .ok (.lconst 0, 1) := by decide +kernel
theorem dX10_together_16 : decode cX10_together 16 = .ok (.aload_n 0, 1) := by decide +kernel
theorem dX10_together_17 : decode cX10_together 17 = .ok (.getfield 43, 3) := by decide +kernel
theorem dX10_together_20 : decode cX10_together 20 = .ok (.iconst 0, 1) := by decide +kernel
theorem dX10_together_21 : decode cX10_together 21 = .ok (.iaload, 1) := by decide +kernel
theorem dX10_together_22 : decode cX10_together 22 = .ok (.i2l, 1) := by decide +kernel
theorem dX10_together_23 : decode cX10_together 23 = .ok (.invokestatic 116, 3) := by decide +kernel
theorem dX10_together_26 : decode cX10_together 26 = .ok (.ifCond .ne 7, 3) := by decide +kernel
theorem dX10_together_33 : decode cX10_together 33 = .ok (.aload_n 0, 1) := by decide +kernel
theorem dX10_together_34 : decode cX10_together 34 = .ok (.iload_n 1, 1) := by decide +kernel
theorem dX10_together_35 : decode cX10_together 35 = .ok (.invokevirtual 337, 3) := by decide +kernel
theorem dX10_together_38 : decode cX10_together 38 = .ok (.lconst 0, 1) := by decide +kernel
theorem dX10_together_39 : decode cX10_together 39 = .ok (.lstore_n 3, 1) := by decide +kernel
theorem dX10_together_40 : decode cX10_together 40 = .ok (.iconst 0, 1) := by decide +kernel
theorem dX10_together_41 : decode cX10_together 41 = .ok (.istore 5, 2) := by decide +kernel
theorem dX10_together_43 : decode cX10_together 43 = .ok (.iload 5, 2) := by decide +kernel
theorem dX10_together_45 : decode cX10_together 45 = .ok (.iconst 1, 1) := by decide +kernel
theorem dX10_together_46 : decode cX10_together 46 = .ok (.aload_n 0, 1) := by decide +kernel
theorem dX10_together_47 : decode cX10_together 47 = .ok (.getfield 43, 3) := by decide +kernel
theorem dX10_together_50 : decode cX10_together 50 = .ok (.iconst 0, 1) := by decide +kernel
theorem dX10_together_51 : decode cX10_together 51 = .ok (.iaload, 1) := by decide +kernel
theorem dX10_together_52 : decode cX10_together 52 = .ok (.ishl, 1) := by decide +kernel
theorem dX10_together_53 : decode cX10_together 53 = .ok (.if_icmp .ge 40, 3) := by decide +kernel
theorem dX10_together_93 : decode cX10_together 93 = .ok (.lload_n 3, 1) := by decide +kernel
theorem dX10_together_94 : decode cX10_together 94 = .ok (.lreturn, 1) := by decide +kernel
theorem dX10_together_56 : decode cX10_together 56 = .ok (.lload_n 3, 1) := by decide +kernel
theorem dX10_together_57 : decode cX10_together 57 = .ok (.iload 5, 2) := by decide +kernel
theorem dX10_together_59 : decode cX10_together 59 = .ok (.invokestatic 340, 3) := by decide +kernel
theorem dX10_together_62 : decode cX10_together 62 = .ok (.iload_n 2, 1) := by decide +kernel
theorem dX10_together_63 : decode cX10_together 63 = .ok (.if_icmp .ne 21, 3) := by decide +kernel
theorem dX10_together_84 : decode cX10_together 84 = .ok (.lconst 0, 1) := by decide +kernel
theorem dX10_together_85 : decode cX10_together 85 = .ok (.ladd, 1) := by decide +kernel
theorem dX10_together_86 : decode cX10_together 86 = .ok (.lstore_n 3, 1) := by decide +kernel
theorem dX10_together_87 : decode cX10_together 87 = .ok (.iinc 5 1, 3) := by decide +kernel
theorem dX10_together_90 : decode cX10_together 90 = .ok (.goto (-47), 3) := by decide +kernel
theorem dX10_together_66 : decode cX10_together 66 = .ok (.aload_n 0, 1) := by decide +kernel
theorem dX10_together_67 : decode cX10_together 67 = .ok (.getfield 83, 3) := by decide +kernel
theorem dX10_together_70 : decode cX10_together 70 = .ok (.iload 5, 2) := by decide +kernel
theorem dX10_together_72 : decode cX10_together 72 = .ok (.laload, 1) := by decide +kernel
theorem dX10_together_73 : decode cX10_together 73 = .ok (.aload_n 0, 1) := by decide +kernel
theorem dX10_together_74 : decode cX10_together 74 = .ok (.getfield 86, 3) := by decide +kernel
theorem dX10_together_77 : decode cX10_together 77 = .ok (.iload 5, 2) := by decide +kernel
theorem dX10_together_79 : decode cX10_together 79 = .ok (.laload, 1) := by decide +kernel
theorem dX10_together_80 : decode cX10_together 80 = .ok (.ladd, 1) := by decide +kernel
theorem dX10_together_81 : decode cX10_together 81 = .ok (.goto 4, 3) := by decide +kernel
theorem dX10_together_29 : decode cX10_together 29 = .ok (.ldc2_w 300, 3) := by decide +kernel
theorem dX10_together_32 : decode cX10_together 32 = .ok (.lreturn, 1) := by decide +kernel
theorem dX10_set_0 : decode cX10_set 0 = .ok (.aload_n 0, 1) := by decide +kernel
theorem dX10_set_1 : decode cX10_set 1 = .ok (.iconst 0, 1) := by decide +kernel
theorem dX10_set_2 : decode cX10_set 2 = .ok (.putfield 111, 3) := by decide +kernel
theorem dX10_set_5 : decode cX10_set 5 = .ok (.aload_n 0, 1) := by decide +kernel
theorem dX10_set_6 : decode cX10_set 6 = .ok (.iload_n 1, 1) := by decide +kernel
theorem dX10_set_7 : decode cX10_set 7 = .ok (.invokevirtual 305, 3) := by decide +kernel
theorem dX10_set_10 : decode cX10_set 10 = .ok (.ifCond .eq 23, 3) := by decide +kernel
theorem dX10_set_13 : decode cX10_set 13 = .ok (.iload_n 2, 1) := by decide +kernel
theorem dX10_set_14 : decode cX10_set 14 = .ok (.i2l, 1) := by decide +kernel
theorem dX10_set_15 : decode cX10_set 15 = .ok (.lconst 0, 1) := by decide +kernel
theorem dX10_set_16 : decode cX10_set 16 = .ok (.iconst 1, 1) := by decide +kernel
theorem dX10_set_17 : decode cX10_set 17 = .ok (.aload_n 0, 1) := by decide +kernel
theorem dX10_set_18 : decode cX10_set 18 = .ok (.getfield 43, 3) := by decide +kernel
theorem dX10_set_21 : decode cX10_set 21 = .ok (.iconst 0, 1) := by decide +kernel
theorem dX10_set_22 : decode cX10_set 22 = .ok (.iaload, 1) := by decide +kernel
theorem dX10_set_23 : decode cX10_set 23 = .ok (.ishl, 1) := by decide +kernel
theorem dX10_set_24 : decode cX10_set 24 = .ok (.iconst 1, 1) := by decide +kernel
theorem dX10_set_25 : decode cX10_set 25 = .ok (.isub, 1) := by decide +kernel
theorem dX10_set_26 : decode cX10_set 26 = .ok (.i2l, 1) := by decide +kernel
theorem dX10_set_27 : decode cX10_set 27 = .ok (.invokestatic 116, 3) := by decide +kernel
theorem dX10_set_30 : decode cX10_set 30 = .ok (.ifCond .ne 7, 3) := by decide +kernel
theorem dX10_set_37 : decode cX10_set 37 = .ok (.aload_n 0, 1) := by decide +kernel
theorem dX10_set_38 : decode cX10_set 38 = .ok (.iload_n 1, 1) := by decide +kernel
theorem dX10_set_39 : decode cX10_set 39 = .ok (.invokevirtual 337, 3) := by decide +kernel
theorem dX10_set_42 : decode cX10_set 42 = .ok (.aload_n 0, 1) := by decide +kernel
theorem dX10_set_43 : decode cX10_set 43 = .ok (.getfield 83, 3) := by decide +kernel
theorem dX10_set_46 : decode cX10_set 46 = .ok (.iload_n 2, 1) := by decide +kernel
theorem dX10_set_47 : decode cX10_set 47 = .ok (.laload, 1) := by decide +kernel
theorem dX10_set_48 : decode cX10_set 48 = .ok (.aload_n 0, 1) := by decide +kernel
theorem dX10_set_49 : decode cX10_set 49 = .ok (.getfield 86, 3) := by decide +kernel
theorem dX10_set_52 : decode cX10_set 52 = .ok (.iload_n 2, 1) := by decide +kernel
theorem dX10_set_53 : decode cX10_set 53 = .ok (.laload, 1) := by decide +kernel
theorem dX10_set_54 : decode cX10_set 54 = .ok (.ladd, 1) := by decide +kernel
theorem dX10_set_55 : decode cX10_set 55 = .ok (.lreturn, 1) := by decide +kernel
theorem dX10_set_33 : decode cX10_set 33 = .ok (.ldc2_w 300, 3) := by decide +kernel
theorem dX10_set_36 : decode cX10_set 36 = .ok (.lreturn, 1) := by decide +kernel
theorem dX10_when_0 : decode cX10_when 0 = .ok (.aload_n 0, 1) := by decide +kernel
theorem dX10_when_1 : decode cX10_when 1 = .ok (.iconst 0, 1) := by decide +kernel
theorem dX10_when_2 : decode cX10_when 2 = .ok (.putfield 111, 3) := by decide +kernel
theorem dX10_when_5 : decode cX10_when 5 = .ok (.aload_n 0, 1) := by decide +kernel
theorem dX10_when_6 : decode cX10_when 6 = .ok (.iload_n 1, 1) := by decide +kernel
theorem dX10_when_7 : decode cX10_when 7 = .ok (.invokevirtual 297, 3) := by decide +kernel
theorem dX10_when_10 : decode cX10_when 10 = .ok (.ifCond .eq 15, 3) := by decide +kernel
theorem dX10_when_13 : decode cX10_when 13 = .ok (.iload_n 2, 1) := by decide +kernel
theorem dX10_when_14 : decode cX10_when 14 = .ok (.i2l, 1) := by decide +kernel
theorem dX10_when_15 : decode cX10_when 15 = .ok (.lconst 1, 1) := by decide +kernel
theorem dX10_when_16 : decode cX10_when 16 = .ok (.ldc2_w 343, 3) := by decide +kernel
theorem dX10_when_19 : decode cX10_when 19 = .ok (.invokestatic 116, 3) := by decide +kernel
theorem dX10_when_22 : decode cX10_when 22 = .ok (.ifCond .ne 6, 3) := by decide +kernel
theorem dX10_when_28 : decode cX10_when 28 = .ok (.aload_n 0, 1) := by decide +kernel
theorem dX10_when_29 : decode cX10_when 29 = .ok (.iload_n 1, 1) := by decide +kernel
theorem dX10_when_30 : decode cX10_when 30 = .ok (.invokevirtual 302, 3) := by decide +kernel
theorem dX10_when_33 : decode cX10_when 33 = .ok (.iconst 1, 1) := by decide +kernel
theorem dX10_when_34 : decode cX10_when 34 = .ok (.istore_n 3, 1) := by decide +kernel
theorem dX10_when_35 : decode cX10_when 35 = .ok (.iload_n 3, 1) := by decide +kernel
theorem dX10_when_36 : decode cX10_when 36 = .ok (.aload_n 0, 1) := by decide +kernel
theorem dX10_when_37 : decode cX10_when 37 = .ok (.invokevirtual 278, 3) := by decide +kernel
theorem dX10_when_40 : decode cX10_when 40 = .ok (.if_icmp .gt 26, 3) := by decide +kernel
theorem dX10_when_66 : decode cX10_when 66 = .ok (.iconst (-1), 1) := by decide +kernel
theorem dX10_when_67 : decode cX10_when 67 = .ok (.ireturn, 1) := by decide +kernel
theorem dX10_when_43 : decode cX10_when 43 = .ok (.aload_n 0, 1) := by decide +kernel
theorem dX10_when_44 : decode cX10_when 44 = .ok (.iload_n 3, 1) := by decide +kernel
theorem dX10_when_45 : decode cX10_when 45 = .ok (.invokevirtual 308, 3) := by decide +kernel
theorem dX10_when_48 : decode cX10_when 48 = .ok (.iload_n 2, 1) := by decide +kernel
theorem dX10_when_49 : decode cX10_when 49 = .ok (.i2l, 1) := by decide +kernel
theorem dX10_when_50 : decode cX10_when 50 = .ok (.ldc2_w 345, 3) := by decide +kernel
theorem dX10_when_53 : decode cX10_when 53 = .ok (.lmul, 1) := by decide +kernel
theorem dX10_when_54 : decode cX10_when 54 = .ok (.lcmp, 1) := by decide +kernel
theorem dX10_when_55 : decode cX10_when 55 = .ok (.ifCond .lt 5, 3) := by decide +kernel
theorem dX10_when_60 : decode cX10_when 60 = .ok (.iinc 3 1, 3) := by decide +kernel
theorem dX10_when_63 : decode cX10_when 63 = .ok (.goto (-28), 3) := by decide +kernel
theorem dX10_when_58 : decode cX10_when 58 = .ok (.iload_n 3, 1) := by decide +kernel
theorem dX10_when_59 : decode cX10_when 59 = .ok (.ireturn, 1) := by decide +kernel
theorem dX10_when_25 : decode cX10_when 25 = .ok (.bipush (-2), 2) := by decide +kernel
theorem dX10_when_27 : decode cX10_when 27 = .ok (.ireturn, 1) := by decide +kernel
theorem dX10_wants_0 : decode cX10_wants 0 = .ok (.aload_n 0, 1) := by decide +kernel
theorem dX10_wants_1 : decode cX10_wants 1 = .ok (.iconst 0, 1) := by decide +kernel
theorem dX10_wants_2 : decode cX10_wants 2 = .ok (.putfield 111, 3) := by decide +kernel
theorem dX10_wants_5 : decode cX10_wants 5 = .ok (.aload_n 0, 1) := by decide +kernel
theorem dX10_wants_6 : decode cX10_wants 6 = .ok (.iload_n 1, 1) := by decide +kernel
theorem dX10_wants_7 : decode cX10_wants 7 = .ok (.invokevirtual 297, 3) := by decide +kernel
theorem dX10_wants_10 : decode cX10_wants 10 = .ok (.ifCond .eq 35, 3) := by decide +kernel
theorem dX10_wants_13 : decode cX10_wants 13 = .ok (.aload_n 0, 1) := by decide +kernel
theorem dX10_wants_14 : decode cX10_wants 14 = .ok (.iload_n 2, 1) := by decide +kernel
theorem dX10_wants_15 : decode cX10_wants 15 = .ok (.invokevirtual 350, 3) := by decide +kernel
theorem dX10_wants_18 : decode cX10_wants 18 = .ok (.ifCond .eq 27, 3) := by decide +kernel
theorem dX10_wants_21 : decode cX10_wants 21 = .ok (.iload_n 3, 1) := by decide +kernel
theorem dX10_wants_22 : decode cX10_wants 22 = .ok (.i2l, 1) := by decide +kernel
theorem dX10_wants_23 : decode cX10_wants 23 = .ok (.lconst 0, 1) := by decide +kernel
theorem dX10_wants_24 : decode cX10_wants 24 = .ok (.aload_n 0, 1) := by decide +kernel
theorem dX10_wants_25 : decode cX10_wants 25 = .ok (.invokevirtual 278, 3) := by decide +kernel
theorem dX10_wants_28 : decode cX10_wants 28 = .ok (.i2l, 1) := by decide +kernel
theorem dX10_wants_29 : decode cX10_wants 29 = .ok (.invokestatic 116, 3) := by decide +kernel
theorem dX10_wants_32 : decode cX10_wants 32 = .ok (.ifCond .eq 13, 3) := by decide +kernel
theorem dX10_wants_35 : decode cX10_wants 35 = .ok (.aload_n 0, 1) := by decide +kernel
theorem dX10_wants_36 : decode cX10_wants 36 = .ok (.iload_n 1, 1) := by decide +kernel
theorem dX10_wants_37 : decode cX10_wants 37 = .ok (.iload_n 2, 1) := by decide +kernel
theorem dX10_wants_38 : decode cX10_wants 38 = .ok (.iload_n 3, 1) := by decide +kernel
theorem dX10_wants_39 : decode cX10_wants 39 = .ok (.invokevirtual 353, 3) := by decide +kernel
theorem dX10_wants_42 : decode cX10_wants 42 = .ok (.goto 5, 3) := by decide +kernel
theorem dX10_wants_47 : decode cX10_wants 47 = .ok (.ireturn, 1) := by decide +kernel
theorem dX10_wants_45 : decode cX10_wants 45 = .ok (.bipush (-2), 2) := by decide +kernel
theorem sS_X10_116 : SiteS RX10 116 yX10_in cX10_in 6 (some .boolean) 3 := ⟨ml_X10_116, st_X10_in, ini_X10, co_X10_in, by decide +kernel⟩
theorem sV_X10_278 : SiteV RX10 278 yX10_lastDay cX10_lastDay 1 (some .int) 0 := ⟨ml_X10_278, im_X10_lastDay, se_X10_lastDay, ini_X10, co_X10_lastDay, by decide +kernel⟩
theorem sV_X10_297 : SiteV RX10 297 yX10_isValley cX10_isValley 2 (some .boolean) 1 := ⟨ml_X10_297, im_X10_isValley, se_X10_isValley, ini_X10, co_X10_isValley, by decide +kernel⟩
theorem sV_X10_350 : SiteV RX10 350 yX10_isThing cX10_isThing 2 (some .boolean) 1 := ⟨ml_X10_350, im_X10_isThing, se_X10_isThing, ini_X10, co_X10_isThing, by decide +kernel⟩
theorem sV_X10_372 : SiteV RX10 372 yX10_areSacks cX10_areSacks 2 (some .boolean) 1 := ⟨ml_X10_372, im_X10_areSacks, se_X10_areSacks, ini_X10, co_X10_areSacks, by decide +kernel⟩
theorem sV_X10_347 : SiteV RX10 347 yX10_wantOf cX10_wantOf 3 (some .int) 2 := ⟨ml_X10_347, im_X10_wantOf, se_X10_wantOf, ini_X10, co_X10_wantOf, by decide +kernel⟩
theorem sV_X10_360 : SiteV RX10 360 yX10_backOf cX10_backOf 2 (some .int) 1 := ⟨ml_X10_360, im_X10_backOf, se_X10_backOf, ini_X10, co_X10_backOf, by decide +kernel⟩
theorem sV_X10_357 : SiteV RX10 357 yX10_harmOf cX10_harmOf 2 (some .int) 1 := ⟨ml_X10_357, im_X10_harmOf, se_X10_harmOf, ini_X10, co_X10_harmOf, by decide +kernel⟩
theorem sV_X10_286 : SiteV RX10 286 yX10_chance cX10_chance 3 (some .int) 2 := ⟨ml_X10_286, im_X10_chance, se_X10_chance, ini_X10, co_X10_chance, by decide +kernel⟩
theorem sS_X10_290 : SiteS RX10 290 yX10_hundredths cX10_hundredths 3 (some .long) 2 := ⟨ml_X10_290, st_X10_hundredths, ini_X10, co_X10_hundredths, by decide +kernel⟩
theorem sV_X10_293 : SiteV RX10 293 yX10_shutOf cX10_shutOf 2 (some .int) 1 := ⟨ml_X10_293, im_X10_shutOf, se_X10_shutOf, ini_X10, co_X10_shutOf, by decide +kernel⟩
theorem sS_X10_312 : SiteS RX10 312 yX10_at2 cX10_at2 2 (some .int) 2 := ⟨ml_X10_312, st_X10_at2, ini_X10, co_X10_at2, by decide +kernel⟩
theorem sV_X10_319 : SiteV RX10 319 yX10_fallsOther cX10_fallsOther 9 none 5 := ⟨ml_X10_319, im_X10_fallsOther, se_X10_fallsOther, ini_X10, co_X10_fallsOther, by decide +kernel⟩
theorem sV_X10_315 : SiteV RX10 315 yX10_falls cX10_falls 10 none 5 := ⟨ml_X10_315, im_X10_falls, se_X10_falls, ini_X10, co_X10_falls, by decide +kernel⟩
theorem sV_X10_334 : SiteV RX10 334 yX10_fallsOn cX10_fallsOn 7 none 2 := ⟨ml_X10_334, im_X10_fallsOn, se_X10_fallsOn, ini_X10, co_X10_fallsOn, by decide +kernel⟩
theorem sV_X10_302 : SiteV RX10 302 yX10_splits cX10_splits 11 none 1 := ⟨ml_X10_302, im_X10_splits, se_X10_splits, ini_X10, co_X10_splits, by decide +kernel⟩
theorem sV_X10_305 : SiteV RX10 305 yX10_isDay cX10_isDay 2 (some .boolean) 1 := ⟨ml_X10_305, im_X10_isDay, se_X10_isDay, ini_X10, co_X10_isDay, by decide +kernel⟩
theorem sV_X10_308 : SiteV RX10 308 yX10_byDay cX10_byDay 5 (some .long) 1 := ⟨ml_X10_308, im_X10_byDay, se_X10_byDay, ini_X10, co_X10_byDay, by decide +kernel⟩
theorem sV_X10_323 : SiteV RX10 323 yX10_areTwo cX10_areTwo 3 (some .boolean) 2 := ⟨ml_X10_323, im_X10_areTwo, se_X10_areTwo, ini_X10, co_X10_areTwo, by decide +kernel⟩
theorem sV_X10_327 : SiteV RX10 327 yX10_splitsTwo cX10_splitsTwo 11 none 2 := ⟨ml_X10_327, im_X10_splitsTwo, se_X10_splitsTwo, ini_X10, co_X10_splitsTwo, by decide +kernel⟩
theorem sV_X10_330 : SiteV RX10 330 yX10_two cX10_two 3 (some .long) 2 := ⟨ml_X10_330, im_X10_two, se_X10_two, ini_X10, co_X10_two, by decide +kernel⟩
theorem sV_X10_337 : SiteV RX10 337 yX10_splitsAll cX10_splitsAll 9 none 1 := ⟨ml_X10_337, im_X10_splitsAll, se_X10_splitsAll, ini_X10, co_X10_splitsAll, by decide +kernel⟩
theorem sS_X10_340 : SiteS RX10 340 yX10_sizeOf cX10_sizeOf 3 (some .int) 1 := ⟨ml_X10_340, st_X10_sizeOf, ini_X10, co_X10_sizeOf, by decide +kernel⟩
theorem sV_X10_353 : SiteV RX10 353 yX10_wantsOf cX10_wantsOf 4 (some .int) 3 := ⟨ml_X10_353, im_X10_wantsOf, se_X10_wantsOf, ini_X10, co_X10_wantsOf, by decide +kernel⟩
set_option maxHeartbeats 4000000 in
set_option maxRecDepth 100000 in
theorem t_X10_in (l : Launch) (D : va_G) (cy : Nat → ClassId) (base : Nat) (τ : Nat → Nat) (G : Gh) (v : Int64) (lo : Int64) (hi : Int64) : MM l yX10_in cX10_in 6 (some .boolean) 0 0 0 D cy [.long v, .long lo, .long hi] (PT D cy base τ G) (PuI (fun r => ((r = 1 ∧ lo.toInt ≤ v.toInt ∧ v.toInt ≤ hi.toInt) ∨ (r = 0)))) noF := by
  refine MM.of (by decide) (Nat.le_of_ble_eq_true rfl) ?_
  intro p e s m below meth c C hPT ls hl
  obtain ⟨hx, hb, hr, hml, hown, hts, hlocks, hK, hnm⟩ := C
  obtain ⟨hZ, hT⟩ := hPT
  have hS : va_S (RA base) s.heap s.heap [] := va_S.rf
  have hl : lv_has ls 6 [(0, .long v), (2, .long lo), (4, .long hi)] := hl
  refine lv_lload_n hx hb dX10_in_0 rfl (lv_at hl 0 rfl) ?_
  refine lv_lload_n hx hb dX10_in_1 rfl (lv_at hl 1 rfl) ?_
  refine W.lcmp hx hb dX10_in_2 ?_
  refine lv_topi (fun z_1 ez_1 => ?_)
  have tz_1 : (z_1.toInt < 0 ↔ v.toInt < lo.toInt) ∧ (0 < z_1.toInt ↔ lo.toInt < v.toInt) ∧ -1 ≤ z_1.toInt ∧ z_1.toInt ≤ 1 := cmp_t ez_1
  refine lv_if_lt (tgt := 17) hx hb dX10_in_3 (by decide) (fun c_2 => ?_) (fun c_2 => ?_)
  · skip
    have tc_2 : z_1.toInt < 0 := (fa_lt _ _).mp c_2
    refine lv_iconst (v := 0) hx hb dX10_in_17 (by decide) ?_
    exact ret_z (ty := .boolean) hx hb hr rfl hlocks ⟨rfl, _, rfl, (Or.inr rfl)⟩ (fun _ h => absurd h List.not_mem_nil) (Nat.le_refl _) (Nat.le_refl _) dX10_in_18
  · skip
    have tc_2 : ¬ z_1.toInt < 0 := fun h => c_2 ((fa_lt _ _).mpr h)
    refine lv_lload_n hx hb dX10_in_6 rfl (lv_at hl 0 rfl) ?_
    refine lv_lload hx hb dX10_in_7 (lv_at hl 2 rfl) ?_
    refine W.lcmp hx hb dX10_in_9 ?_
    refine lv_topi (fun z_3 ez_3 => ?_)
    have tz_3 : (z_3.toInt < 0 ↔ v.toInt < hi.toInt) ∧ (0 < z_3.toInt ↔ hi.toInt < v.toInt) ∧ -1 ≤ z_3.toInt ∧ z_3.toInt ≤ 1 := cmp_t ez_3
    refine lv_if_gt (tgt := 17) hx hb dX10_in_10 (by decide) (fun c_4 => ?_) (fun c_4 => ?_)
    · skip
      have tc_4 : 0 < z_3.toInt := (fa_lt _ _).mp c_4
      refine lv_iconst (v := 0) hx hb dX10_in_17 (by decide) ?_
      exact ret_z (ty := .boolean) hx hb hr rfl hlocks ⟨rfl, _, rfl, (Or.inr rfl)⟩ (fun _ h => absurd h List.not_mem_nil) (Nat.le_refl _) (Nat.le_refl _) dX10_in_18
    · skip
      have tc_4 : ¬ 0 < z_3.toInt := fun h => c_4 ((fa_lt _ _).mpr h)
      refine lv_iconst (v := 1) hx hb dX10_in_13 (by decide) ?_
      refine lv_goto (tgt := 18) hx hb dX10_in_14 (by decide) ?_
      exact ret_z (ty := .boolean) hx hb hr rfl hlocks ⟨rfl, _, rfl, (Or.inl ⟨rfl, (by omega), (by omega)⟩)⟩ (fun _ h => absurd h List.not_mem_nil) (Nat.le_refl _) (Nat.le_refl _) dX10_in_18
set_option maxHeartbeats 4000000 in
set_option maxRecDepth 100000 in
theorem t_X10_isSlot (l : Launch) (D : va_G) (cy : Nat → ClassId) (base : Nat) (τ : Nat → Nat) (G : Gh) (v : Int32) : MM l yX10_isSlot cX10_isSlot 1 (some .boolean) 1 0 0 D cy [.int v] (PT D cy base τ G) (PuI (fun r => ((r = 1 ∧ 0 ≤ v.toInt ∧ v.toInt ≤ 3) ∨ (r = 0)))) noF := by
  refine MM.of (by decide) (Nat.le_of_ble_eq_true rfl) ?_
  intro p e s m below meth c C hPT ls hl
  obtain ⟨hx, hb, hr, hml, hown, hts, hlocks, hK, hnm⟩ := C
  obtain ⟨hZ, hT⟩ := hPT
  have hS : va_S (RA base) s.heap s.heap [] := va_S.rf
  have hl : lv_has ls 1 [(0, .int v)] := hl
  refine lv_iload_n hx hb dX10_isSlot_0 rfl (lv_at hl 0 rfl) ?_
  refine lv_i2l hx hb dX10_isSlot_1 rfl ?_
  refine lv_topl (fun z_1 ez_1 => ?_)
  have tz_1 : z_1.toInt = v.toInt := by rw [ez_1]; exact wide_t v
  have az_1 := min_t v
  have bz_1 := max_t v
  refine lv_lconst (v := 0) hx hb dX10_isSlot_2 (by decide) ?_
  refine lv_ldc2 (v := 3) hx hb hown (hts _ kl_X10_114) dX10_isSlot_3 ?_
  refine pu_calli (runS (As := [.long z_1, .long 0, .long 3]) (rest := []) ⟨hx, hb, hml, hown, hts⟩ (t_X10_in l D cy base τ G z_1 0 3) sS_X10_116 hK ⟨Nat.le_trans hZ hS.1, hT⟩ ⟨Nat.le_of_ble_eq_true rfl, Nat.le_of_ble_eq_true rfl⟩ rfl hl.1 rfl (Nat.le_of_ble_eq_true rfl) dX10_isSlot_6 ⟨Nat.le_of_ble_eq_true rfl, Nat.le_of_ble_eq_true rfl⟩) (fun r_2 hr_2 => ?_)
  have hr_2_c := hr_2
  rcases hr_2_c with hr_2_0 | hr_2_1
  · skip
    obtain ⟨er_2, hr_2_0_f0, hr_2_0_f1⟩ := hr_2_0
    have hr_2_0_f0 : 0 ≤ z_1.toInt := hr_2_0_f0
    have hr_2_0_f1 : z_1.toInt ≤ 3 := hr_2_0_f1
    subst er_2
    refine W.eq (g2 := F0 m 9 ls [.int 1]) rfl ?_
    exact ret_z (ty := .boolean) hx hb hr rfl hlocks ⟨rfl, _, rfl, (Or.inl ⟨rfl, (by omega), (by omega)⟩)⟩ (fun _ h => absurd h List.not_mem_nil) (Nat.le_refl _) (Nat.le_refl _) dX10_isSlot_9
  · skip
    have er_2 := hr_2_1
    subst er_2
    refine W.eq (g2 := F0 m 9 ls [.int 0]) rfl ?_
    exact ret_z (ty := .boolean) hx hb hr rfl hlocks ⟨rfl, _, rfl, (Or.inr rfl)⟩ (fun _ h => absurd h List.not_mem_nil) (Nat.le_refl _) (Nat.le_refl _) dX10_isSlot_9
set_option maxHeartbeats 4000000 in
set_option maxRecDepth 100000 in
theorem t_X10_isSeed (l : Launch) (D : va_G) (cy : Nat → ClassId) (base : Nat) (τ : Nat → Nat) (G : Gh) (v : Int32) : MM l yX10_isSeed cX10_isSeed 1 (some .boolean) 1 0 0 D cy [.int v] (PT D cy base τ G) (PuI (fun r => ((r = 1 ∧ 0 ≤ v.toInt ∧ v.toInt ≤ 2000000000) ∨ (r = 0)))) noF := by
  refine MM.of (by decide) (Nat.le_of_ble_eq_true rfl) ?_
  intro p e s m below meth c C hPT ls hl
  obtain ⟨hx, hb, hr, hml, hown, hts, hlocks, hK, hnm⟩ := C
  obtain ⟨hZ, hT⟩ := hPT
  have hS : va_S (RA base) s.heap s.heap [] := va_S.rf
  have hl : lv_has ls 1 [(0, .int v)] := hl
  refine lv_iload_n hx hb dX10_isSeed_0 rfl (lv_at hl 0 rfl) ?_
  refine lv_i2l hx hb dX10_isSeed_1 rfl ?_
  refine lv_topl (fun z_1 ez_1 => ?_)
  have tz_1 : z_1.toInt = v.toInt := by rw [ez_1]; exact wide_t v
  have az_1 := min_t v
  have bz_1 := max_t v
  refine lv_lconst (v := 0) hx hb dX10_isSeed_2 (by decide) ?_
  refine lv_ldc2 (v := 2000000000) hx hb hown (hts _ kl_X10_490) dX10_isSeed_3 ?_
  refine pu_calli (runS (As := [.long z_1, .long 0, .long 2000000000]) (rest := []) ⟨hx, hb, hml, hown, hts⟩ (t_X10_in l D cy base τ G z_1 0 2000000000) sS_X10_116 hK ⟨Nat.le_trans hZ hS.1, hT⟩ ⟨Nat.le_of_ble_eq_true rfl, Nat.le_of_ble_eq_true rfl⟩ rfl hl.1 rfl (Nat.le_of_ble_eq_true rfl) dX10_isSeed_6 ⟨Nat.le_of_ble_eq_true rfl, Nat.le_of_ble_eq_true rfl⟩) (fun r_2 hr_2 => ?_)
  have hr_2_c := hr_2
  rcases hr_2_c with hr_2_0 | hr_2_1
  · skip
    obtain ⟨er_2, hr_2_0_f0, hr_2_0_f1⟩ := hr_2_0
    have hr_2_0_f0 : 0 ≤ z_1.toInt := hr_2_0_f0
    have hr_2_0_f1 : z_1.toInt ≤ 2000000000 := hr_2_0_f1
    subst er_2
    refine W.eq (g2 := F0 m 9 ls [.int 1]) rfl ?_
    exact ret_z (ty := .boolean) hx hb hr rfl hlocks ⟨rfl, _, rfl, (Or.inl ⟨rfl, (by omega), (by omega)⟩)⟩ (fun _ h => absurd h List.not_mem_nil) (Nat.le_refl _) (Nat.le_refl _) dX10_isSeed_9
  · skip
    have er_2 := hr_2_1
    subst er_2
    refine W.eq (g2 := F0 m 9 ls [.int 0]) rfl ?_
    exact ret_z (ty := .boolean) hx hb hr rfl hlocks ⟨rfl, _, rfl, (Or.inr rfl)⟩ (fun _ h => absurd h List.not_mem_nil) (Nat.le_refl _) (Nat.le_refl _) dX10_isSeed_9
set_option maxHeartbeats 4000000 in
set_option maxRecDepth 100000 in
theorem t_X10_areSacks (l : Launch) (D : va_G) (cy : Nat → ClassId) (base : Nat) (τ : Nat → Nat) (G : Gh) (a : Nat) (h_a : τ a = 11) (v : Int32) : MM l yX10_areSacks cX10_areSacks 2 (some .boolean) 1 0 0 D cy [.ref a, .int v] (PT D cy base τ G) (PuI (fun r => ((r = 1 ∧ 0 ≤ v.toInt ∧ v.toInt ≤ 999) ∨ (r = 0)))) noF := by
  refine MM.of (by decide) (Nat.le_of_ble_eq_true rfl) ?_
  intro p e s m below meth c C hPT ls hl
  obtain ⟨hx, hb, hr, hml, hown, hts, hlocks, hK, hnm⟩ := C
  obtain ⟨hZ, hT⟩ := hPT
  have hS : va_S (RA base) s.heap s.heap [] := va_S.rf
  have hl : lv_has ls 2 [(0, .ref a), (1, .int v)] := hl
  refine lv_iload_n hx hb dX10_areSacks_0 rfl (lv_at hl 1 rfl) ?_
  refine lv_i2l hx hb dX10_areSacks_1 rfl ?_
  refine lv_topl (fun z_1 ez_1 => ?_)
  have tz_1 : z_1.toInt = v.toInt := by rw [ez_1]; exact wide_t v
  have az_1 := min_t v
  have bz_1 := max_t v
  refine lv_lconst (v := 0) hx hb dX10_areSacks_2 (by decide) ?_
  refine lv_ldc2 (v := 999) hx hb hown (hts _ kl_X10_370) dX10_areSacks_3 ?_
  refine pu_calli (runS (As := [.long z_1, .long 0, .long 999]) (rest := []) ⟨hx, hb, hml, hown, hts⟩ (t_X10_in l D cy base τ G z_1 0 999) sS_X10_116 hK ⟨Nat.le_trans hZ hS.1, hT⟩ ⟨Nat.le_of_ble_eq_true rfl, Nat.le_of_ble_eq_true rfl⟩ rfl hl.1 rfl (Nat.le_of_ble_eq_true rfl) dX10_areSacks_6 ⟨Nat.le_of_ble_eq_true rfl, Nat.le_of_ble_eq_true rfl⟩) (fun r_2 hr_2 => ?_)
  have hr_2_c := hr_2
  rcases hr_2_c with hr_2_0 | hr_2_1
  · skip
    obtain ⟨er_2, hr_2_0_f0, hr_2_0_f1⟩ := hr_2_0
    have hr_2_0_f0 : 0 ≤ z_1.toInt := hr_2_0_f0
    have hr_2_0_f1 : z_1.toInt ≤ 999 := hr_2_0_f1
    subst er_2
    refine W.eq (g2 := F0 m 9 ls [.int 1]) rfl ?_
    exact ret_z (ty := .boolean) hx hb hr rfl hlocks ⟨rfl, _, rfl, (Or.inl ⟨rfl, (by omega), (by omega)⟩)⟩ (fun _ h => absurd h List.not_mem_nil) (Nat.le_refl _) (Nat.le_refl _) dX10_areSacks_9
  · skip
    have er_2 := hr_2_1
    subst er_2
    refine W.eq (g2 := F0 m 9 ls [.int 0]) rfl ?_
    exact ret_z (ty := .boolean) hx hb hr rfl hlocks ⟨rfl, _, rfl, (Or.inr rfl)⟩ (fun _ h => absurd h List.not_mem_nil) (Nat.le_refl _) (Nat.le_refl _) dX10_areSacks_9
set_option maxHeartbeats 4000000 in
set_option maxRecDepth 100000 in
theorem t_X10_areHundredths (l : Launch) (D : va_G) (cy : Nat → ClassId) (base : Nat) (τ : Nat → Nat) (G : Gh) (v : Int32) : MM l yX10_areHundredths cX10_areHundredths 1 (some .boolean) 1 0 0 D cy [.int v] (PT D cy base τ G) (PuI (fun r => ((r = 1 ∧ 0 ≤ v.toInt ∧ v.toInt ≤ 100) ∨ (r = 0)))) noF := by
  refine MM.of (by decide) (Nat.le_of_ble_eq_true rfl) ?_
  intro p e s m below meth c C hPT ls hl
  obtain ⟨hx, hb, hr, hml, hown, hts, hlocks, hK, hnm⟩ := C
  obtain ⟨hZ, hT⟩ := hPT
  have hS : va_S (RA base) s.heap s.heap [] := va_S.rf
  have hl : lv_has ls 1 [(0, .int v)] := hl
  refine lv_iload_n hx hb dX10_areHundredths_0 rfl (lv_at hl 0 rfl) ?_
  refine lv_i2l hx hb dX10_areHundredths_1 rfl ?_
  refine lv_topl (fun z_1 ez_1 => ?_)
  have tz_1 : z_1.toInt = v.toInt := by rw [ez_1]; exact wide_t v
  have az_1 := min_t v
  have bz_1 := max_t v
  refine lv_lconst (v := 0) hx hb dX10_areHundredths_2 (by decide) ?_
  refine lv_ldc2 (v := 100) hx hb hown (hts _ kl_X10_282) dX10_areHundredths_3 ?_
  refine pu_calli (runS (As := [.long z_1, .long 0, .long 100]) (rest := []) ⟨hx, hb, hml, hown, hts⟩ (t_X10_in l D cy base τ G z_1 0 100) sS_X10_116 hK ⟨Nat.le_trans hZ hS.1, hT⟩ ⟨Nat.le_of_ble_eq_true rfl, Nat.le_of_ble_eq_true rfl⟩ rfl hl.1 rfl (Nat.le_of_ble_eq_true rfl) dX10_areHundredths_6 ⟨Nat.le_of_ble_eq_true rfl, Nat.le_of_ble_eq_true rfl⟩) (fun r_2 hr_2 => ?_)
  have hr_2_c := hr_2
  rcases hr_2_c with hr_2_0 | hr_2_1
  · skip
    obtain ⟨er_2, hr_2_0_f0, hr_2_0_f1⟩ := hr_2_0
    have hr_2_0_f0 : 0 ≤ z_1.toInt := hr_2_0_f0
    have hr_2_0_f1 : z_1.toInt ≤ 100 := hr_2_0_f1
    subst er_2
    refine W.eq (g2 := F0 m 9 ls [.int 1]) rfl ?_
    exact ret_z (ty := .boolean) hx hb hr rfl hlocks ⟨rfl, _, rfl, (Or.inl ⟨rfl, (by omega), (by omega)⟩)⟩ (fun _ h => absurd h List.not_mem_nil) (Nat.le_refl _) (Nat.le_refl _) dX10_areHundredths_9
  · skip
    have er_2 := hr_2_1
    subst er_2
    refine W.eq (g2 := F0 m 9 ls [.int 0]) rfl ?_
    exact ret_z (ty := .boolean) hx hb hr rfl hlocks ⟨rfl, _, rfl, (Or.inr rfl)⟩ (fun _ h => absurd h List.not_mem_nil) (Nat.le_refl _) (Nat.le_refl _) dX10_areHundredths_9
set_option maxHeartbeats 4000000 in
set_option maxRecDepth 100000 in
theorem t_X10_cut (l : Launch) (D : va_G) (cy : Nat → ClassId) (base : Nat) (τ : Nat → Nat) (G : Gh) (v : Int64) (w : Int32) : MM l yX10_cut cX10_cut 3 (some .long) 0 0 0 D cy [.long v, .int w] (PT D cy base τ G) (PuL (fun r => True)) noF := by
  refine MM.of (by decide) (Nat.le_of_ble_eq_true rfl) ?_
  intro p e s m below meth c C hPT ls hl
  obtain ⟨hx, hb, hr, hml, hown, hts, hlocks, hK, hnm⟩ := C
  obtain ⟨hZ, hT⟩ := hPT
  have hS : va_S (RA base) s.heap s.heap [] := va_S.rf
  have hl : lv_has ls 3 [(0, .long v), (2, .int w)] := hl
  refine lv_iload_n hx hb dX10_cut_0 rfl (lv_at hl 1 rfl) ?_
  refine lv_if_ne (tgt := 11) hx hb dX10_cut_1 (by decide) (fun c_1 => ?_) (fun c_1 => ?_)
  · skip
    have tc_1 : ¬ w.toInt = 0 := fun h => c_1 ((fa_eq _ _).mpr h)
    refine lv_iload_n hx hb dX10_cut_11 rfl (lv_at hl 1 rfl) ?_
    refine lv_iconst (v := 1) hx hb dX10_cut_12 (by decide) ?_
    refine lv_icmp_ne (tgt := 23) hx hb dX10_cut_13 (by decide) (fun c_2 => ?_) (fun c_2 => ?_)
    · skip
      have tc_2 : ¬ w.toInt = 1 := fun h => c_2 ((fa_eq _ _).mpr h)
      refine lv_iload_n hx hb dX10_cut_23 rfl (lv_at hl 1 rfl) ?_
      refine lv_iconst (v := 2) hx hb dX10_cut_24 (by decide) ?_
      refine lv_icmp_ne (tgt := 34) hx hb dX10_cut_25 (by decide) (fun c_3 => ?_) (fun c_3 => ?_)
      · skip
        have tc_3 : ¬ w.toInt = 2 := fun h => c_3 ((fa_eq _ _).mpr h)
        refine lv_lload_n hx hb dX10_cut_34 rfl (lv_at hl 0 rfl) ?_
        exact ret_l hx hb hr hlocks ⟨rfl, _, rfl, trivial⟩ (fun _ h => absurd h List.not_mem_nil) (Nat.le_refl _) (Nat.le_refl _) dX10_cut_35
      · skip
        have tc_3 : w.toInt = 2 := (fa_eq _ _).mp c_3
        refine lv_lload_n hx hb dX10_cut_28 rfl (lv_at hl 0 rfl) ?_
        refine lv_l2i hx hb dX10_cut_29 rfl ?_
        refine lv_topi (fun z_4 ez_4 => ?_)
        refine lv_i2l hx hb dX10_cut_30 rfl ?_
        refine lv_topl (fun z_5 ez_5 => ?_)
        have tz_5 : z_5.toInt = z_4.toInt := by rw [ez_5]; exact wide_t z_4
        have az_5 := min_t z_4
        have bz_5 := max_t z_4
        refine lv_goto (tgt := 35) hx hb dX10_cut_31 (by decide) ?_
        exact ret_l hx hb hr hlocks ⟨rfl, _, rfl, trivial⟩ (fun _ h => absurd h List.not_mem_nil) (Nat.le_refl _) (Nat.le_refl _) dX10_cut_35
    · skip
      have tc_2 : w.toInt = 1 := (fa_eq _ _).mp c_2
      refine lv_lload_n hx hb dX10_cut_16 rfl (lv_at hl 0 rfl) ?_
      refine lv_l2i hx hb dX10_cut_17 rfl ?_
      refine lv_topi (fun z_6 ez_6 => ?_)
      refine lv_i2s hx hb dX10_cut_18 rfl ?_
      refine lv_topi (fun z_7 ez_7 => ?_)
      refine lv_i2l hx hb dX10_cut_19 rfl ?_
      refine lv_topl (fun z_8 ez_8 => ?_)
      have tz_8 : z_8.toInt = z_7.toInt := by rw [ez_8]; exact wide_t z_7
      have az_8 := min_t z_7
      have bz_8 := max_t z_7
      refine lv_goto (tgt := 35) hx hb dX10_cut_20 (by decide) ?_
      exact ret_l hx hb hr hlocks ⟨rfl, _, rfl, trivial⟩ (fun _ h => absurd h List.not_mem_nil) (Nat.le_refl _) (Nat.le_refl _) dX10_cut_35
  · skip
    have tc_1 : w.toInt = 0 := (fa_eq _ _).mp c_1
    refine lv_lload_n hx hb dX10_cut_4 rfl (lv_at hl 0 rfl) ?_
    refine lv_l2i hx hb dX10_cut_5 rfl ?_
    refine lv_topi (fun z_9 ez_9 => ?_)
    refine lv_i2b hx hb dX10_cut_6 rfl ?_
    refine lv_topi (fun z_10 ez_10 => ?_)
    refine lv_i2l hx hb dX10_cut_7 rfl ?_
    refine lv_topl (fun z_11 ez_11 => ?_)
    have tz_11 : z_11.toInt = z_10.toInt := by rw [ez_11]; exact wide_t z_10
    have az_11 := min_t z_10
    have bz_11 := max_t z_10
    refine lv_goto (tgt := 35) hx hb dX10_cut_8 (by decide) ?_
    exact ret_l hx hb hr hlocks ⟨rfl, _, rfl, trivial⟩ (fun _ h => absurd h List.not_mem_nil) (Nat.le_refl _) (Nat.le_refl _) dX10_cut_35
set_option maxHeartbeats 4000000 in
set_option maxRecDepth 100000 in
theorem t_X10_lastDay (l : Launch) (D : va_G) (cy : Nat → ClassId) (base : Nat) (τ : Nat → Nat) (G : Gh) (a : Nat) (h_a : τ a = 11) (wa : Nat) (h_wa : τ wa = 67) (e_wa : G.2.2.1 a 17 = some wa) (ld0 : Int32) (e_ld0 : ld0 = G.1 wa 0) (r_ld0 : 0 ≤ ld0.toInt ∧ ld0.toInt ≤ 60) : MM l yX10_lastDay cX10_lastDay 1 (some .int) 0 0 0 D cy [.ref a] (PT D cy base τ G) (PuI (fun r => r = ld0)) noF := by
  refine MM.of (by decide) (Nat.le_of_ble_eq_true rfl) ?_
  intro p e s m below meth c C hPT ls hl
  obtain ⟨hx, hb, hr, hml, hown, hts, hlocks, hK, hnm⟩ := C
  obtain ⟨hZ, hT⟩ := hPT
  have hS : va_S (RA base) s.heap s.heap [] := va_S.rf
  have hl : lv_has ls 1 [(0, .ref a)] := hl
  refine lv_aload_n hx hb dX10_lastDay_0 rfl (lv_at hl 0 rfl) ?_
  refine t_getr cf_11 hx hb hts hown hK hT h_a (k := 17) (P := fun q => τ q = 67) rfl (fun _ h9 => h9) fl_X10_34 (fun _ h9 => h9) dX10_lastDay_1 (fun q_1 eq_1 hq_1 => ?_)
  have w_2 : wa = q_1 := Option.some.inj (e_wa.symm.trans eq_1)
  subst w_2
  refine lv_iconst (v := 0) hx hb dX10_lastDay_4 (by decide) ?_
  refine t_iald (n := 20) (i := 0) rfl (by decide) hx hb hK hT h_wa (hT.len h_wa (by decide)) ⟨by decide, by decide⟩ dX10_lastDay_5 (fun z_3 ez_3 rz_3 => ?_)
  have w_4 : ld0 = z_3 := e_ld0.trans ez_3.symm
  subst w_4
  exact ret_i hx hb hr hlocks ⟨rfl, _, rfl, rfl⟩ (fun _ h => absurd h List.not_mem_nil) (Nat.le_refl _) (Nat.le_refl _) dX10_lastDay_6
set_option maxHeartbeats 4000000 in
set_option maxRecDepth 100000 in
theorem t_X10_isDay (l : Launch) (D : va_G) (cy : Nat → ClassId) (base : Nat) (τ : Nat → Nat) (G : Gh) (a : Nat) (h_a : τ a = 11) (v : Int32) : MM l yX10_isDay cX10_isDay 2 (some .boolean) 1 0 0 D cy [.ref a, .int v] (PT D cy base τ G) (PuI (fun r => ((r = 1 ∧ 1 ≤ v.toInt ∧ v.toInt ≤ 60) ∨ (r = 0)))) noF := by
  refine MM.of (by decide) (Nat.le_of_ble_eq_true rfl) ?_
  intro p e s m below meth c C hPT ls hl
  obtain ⟨hx, hb, hr, hml, hown, hts, hlocks, hK, hnm⟩ := C
  obtain ⟨hZ, hT⟩ := hPT
  have hS : va_S (RA base) s.heap s.heap [] := va_S.rf
  have hl : lv_has ls 2 [(0, .ref a), (1, .int v)] := hl
  refine lv_iload_n hx hb dX10_isDay_0 rfl (lv_at hl 1 rfl) ?_
  refine lv_i2l hx hb dX10_isDay_1 rfl ?_
  refine lv_topl (fun z_1 ez_1 => ?_)
  have tz_1 : z_1.toInt = v.toInt := by rw [ez_1]; exact wide_t v
  have az_1 := min_t v
  have bz_1 := max_t v
  refine lv_lconst (v := 1) hx hb dX10_isDay_2 (by decide) ?_
  refine lv_aload_n hx hb dX10_isDay_3 rfl (lv_at hl 0 rfl) ?_
  obtain ⟨q_2, eq_2, hq_2⟩ := (show ∃ q, G.2.2.1 a 17 = some q ∧ τ q = 67 from hT.rgr h_a (by decide) 17)
  obtain ⟨z_3, ez_3⟩ : ∃ y : Int32, y = G.1 q_2 0 := ⟨_, rfl⟩
  have qz_3 : (0 % 4 = 0 → 0 ≤ z_3.toInt ∧ z_3.toInt ≤ 60) := by rw [ez_3]; exact hT.rgi hq_2 (by decide) 0
  have rz_3 : 0 ≤ z_3.toInt ∧ z_3.toInt ≤ 60 := by omega
  refine pu_calli (runV (As := []) (rest := [.long 1, .long z_1]) ⟨hx, hb, hml, hown, hts⟩ (t_X10_lastDay l D cy base τ G a h_a q_2 hq_2 eq_2 z_3 ez_3 ⟨by omega, by omega⟩) sV_X10_278 hK (t_recv cf_11 hK hT h_a) ⟨Nat.le_trans hZ hS.1, hT⟩ ⟨Nat.le_of_ble_eq_true rfl, Nat.le_of_ble_eq_true rfl⟩ rfl hl.1 rfl (Nat.le_of_ble_eq_true rfl) dX10_isDay_4 ⟨Nat.le_of_ble_eq_true rfl, Nat.le_of_ble_eq_true rfl⟩) (fun r_4 hr_4 => ?_)
  have er_4 := hr_4
  have er_4 := er_4.symm
  subst er_4
  refine W.eq (g2 := F0 m 7 ls [.int z_3, .long 1, .long z_1]) rfl ?_
  refine lv_i2l hx hb dX10_isDay_7 rfl ?_
  refine lv_topl (fun z_5 ez_5 => ?_)
  have tz_5 : z_5.toInt = z_3.toInt := by rw [ez_5]; exact wide_t z_3
  refine pu_calli (runS (As := [.long z_1, .long 1, .long z_5]) (rest := []) ⟨hx, hb, hml, hown, hts⟩ (t_X10_in l D cy base τ G z_1 1 z_5) sS_X10_116 hK ⟨Nat.le_trans hZ hS.1, hT⟩ ⟨Nat.le_of_ble_eq_true rfl, Nat.le_of_ble_eq_true rfl⟩ rfl hl.1 rfl (Nat.le_of_ble_eq_true rfl) dX10_isDay_8 ⟨Nat.le_of_ble_eq_true rfl, Nat.le_of_ble_eq_true rfl⟩) (fun r_6 hr_6 => ?_)
  have hr_6_c := hr_6
  rcases hr_6_c with hr_6_0 | hr_6_1
  · skip
    obtain ⟨er_6, hr_6_0_f0, hr_6_0_f1⟩ := hr_6_0
    have hr_6_0_f0 : 1 ≤ z_1.toInt := hr_6_0_f0
    have hr_6_0_f1 : z_1.toInt ≤ z_5.toInt := hr_6_0_f1
    subst er_6
    refine W.eq (g2 := F0 m 11 ls [.int 1]) rfl ?_
    exact ret_z (ty := .boolean) hx hb hr rfl hlocks ⟨rfl, _, rfl, (Or.inl ⟨rfl, (by omega), (by omega)⟩)⟩ (fun _ h => absurd h List.not_mem_nil) (Nat.le_refl _) (Nat.le_refl _) dX10_isDay_11
  · skip
    have er_6 := hr_6_1
    subst er_6
    refine W.eq (g2 := F0 m 11 ls [.int 0]) rfl ?_
    exact ret_z (ty := .boolean) hx hb hr rfl hlocks ⟨rfl, _, rfl, (Or.inr rfl)⟩ (fun _ h => absurd h List.not_mem_nil) (Nat.le_refl _) (Nat.le_refl _) dX10_isDay_11
set_option maxHeartbeats 4000000 in
set_option maxRecDepth 100000 in
theorem t_X10_isValley (l : Launch) (D : va_G) (cy : Nat → ClassId) (base : Nat) (τ : Nat → Nat) (G : Gh) (a : Nat) (h_a : τ a = 11) (v : Int32) : MM l yX10_isValley cX10_isValley 2 (some .boolean) 1 0 0 D cy [.ref a, .int v] (PT D cy base τ G) (PuI (fun r => ((r = 1 ∧ 0 ≤ v.toInt ∧ v.toInt ≤ 5) ∨ (r = 0)))) noF := by
  refine MM.of (by decide) (Nat.le_of_ble_eq_true rfl) ?_
  intro p e s m below meth c C hPT ls hl
  obtain ⟨hx, hb, hr, hml, hown, hts, hlocks, hK, hnm⟩ := C
  obtain ⟨hZ, hT⟩ := hPT
  have hS : va_S (RA base) s.heap s.heap [] := va_S.rf
  have hl : lv_has ls 2 [(0, .ref a), (1, .int v)] := hl
  refine lv_iload_n hx hb dX10_isValley_0 rfl (lv_at hl 1 rfl) ?_
  refine lv_i2l hx hb dX10_isValley_1 rfl ?_
  refine lv_topl (fun z_1 ez_1 => ?_)
  have tz_1 : z_1.toInt = v.toInt := by rw [ez_1]; exact wide_t v
  have az_1 := min_t v
  have bz_1 := max_t v
  refine lv_lconst (v := 0) hx hb dX10_isValley_2 (by decide) ?_
  refine lv_aload_n hx hb dX10_isValley_3 rfl (lv_at hl 0 rfl) ?_
  refine t_getr cf_11 hx hb hts hown hK hT h_a (k := 20) (P := fun q => τ q = 70) rfl (fun _ h9 => h9) fl_X10_43 (fun _ h9 => h9) dX10_isValley_4 (fun q_2 eq_2 hq_2 => ?_)
  refine lv_iconst (v := 0) hx hb dX10_isValley_7 (by decide) ?_
  refine t_iald (n := 5) (i := 0) rfl (by decide) hx hb hK hT hq_2 (hT.len hq_2 (by decide)) ⟨by decide, by decide⟩ dX10_isValley_8 (fun z_3 ez_3 rz_3 => ?_)
  have ez_3 : z_3 = G.1 q_2 0 := ez_3
  have rz_3 : 0 ≤ z_3.toInt ∧ z_3.toInt ≤ 6 := rz_3
  refine lv_iconst (v := 1) hx hb dX10_isValley_9 (by decide) ?_
  refine lv_isub hx hb dX10_isValley_10 ?_
  refine lv_topi (fun z_4 ez_4 => ?_)
  have tz_4 : z_4.toInt = z_3.toInt - 1 := sub_t ez_4 (show -2147483648 ≤ z_3.toInt - 1 by omega) (show z_3.toInt - 1 < 2147483648 by omega)
  refine lv_i2l hx hb dX10_isValley_11 rfl ?_
  refine lv_topl (fun z_5 ez_5 => ?_)
  have tz_5 : z_5.toInt = z_4.toInt := by rw [ez_5]; exact wide_t z_4
  refine pu_calli (runS (As := [.long z_1, .long 0, .long z_5]) (rest := []) ⟨hx, hb, hml, hown, hts⟩ (t_X10_in l D cy base τ G z_1 0 z_5) sS_X10_116 hK ⟨Nat.le_trans hZ hS.1, hT⟩ ⟨Nat.le_of_ble_eq_true rfl, Nat.le_of_ble_eq_true rfl⟩ rfl hl.1 rfl (Nat.le_of_ble_eq_true rfl) dX10_isValley_12 ⟨Nat.le_of_ble_eq_true rfl, Nat.le_of_ble_eq_true rfl⟩) (fun r_6 hr_6 => ?_)
  have hr_6_c := hr_6
  rcases hr_6_c with hr_6_0 | hr_6_1
  · skip
    obtain ⟨er_6, hr_6_0_f0, hr_6_0_f1⟩ := hr_6_0
    have hr_6_0_f0 : 0 ≤ z_1.toInt := hr_6_0_f0
    have hr_6_0_f1 : z_1.toInt ≤ z_5.toInt := hr_6_0_f1
    subst er_6
    refine W.eq (g2 := F0 m 15 ls [.int 1]) rfl ?_
    exact ret_z (ty := .boolean) hx hb hr rfl hlocks ⟨rfl, _, rfl, (Or.inl ⟨rfl, (by omega), (by omega)⟩)⟩ (fun _ h => absurd h List.not_mem_nil) (Nat.le_refl _) (Nat.le_refl _) dX10_isValley_15
  · skip
    have er_6 := hr_6_1
    subst er_6
    refine W.eq (g2 := F0 m 15 ls [.int 0]) rfl ?_
    exact ret_z (ty := .boolean) hx hb hr rfl hlocks ⟨rfl, _, rfl, (Or.inr rfl)⟩ (fun _ h => absurd h List.not_mem_nil) (Nat.le_refl _) (Nat.le_refl _) dX10_isValley_15
set_option maxHeartbeats 4000000 in
set_option maxRecDepth 100000 in
theorem t_X10_isThing (l : Launch) (D : va_G) (cy : Nat → ClassId) (base : Nat) (τ : Nat → Nat) (G : Gh) (a : Nat) (h_a : τ a = 11) (v : Int32) : MM l yX10_isThing cX10_isThing 2 (some .boolean) 1 0 0 D cy [.ref a, .int v] (PT D cy base τ G) (PuI (fun r => ((r = 1 ∧ 0 ≤ v.toInt ∧ v.toInt ≤ 2) ∨ (r = 0)))) noF := by
  refine MM.of (by decide) (Nat.le_of_ble_eq_true rfl) ?_
  intro p e s m below meth c C hPT ls hl
  obtain ⟨hx, hb, hr, hml, hown, hts, hlocks, hK, hnm⟩ := C
  obtain ⟨hZ, hT⟩ := hPT
  have hS : va_S (RA base) s.heap s.heap [] := va_S.rf
  have hl : lv_has ls 2 [(0, .ref a), (1, .int v)] := hl
  refine lv_iload_n hx hb dX10_isThing_0 rfl (lv_at hl 1 rfl) ?_
  refine lv_i2l hx hb dX10_isThing_1 rfl ?_
  refine lv_topl (fun z_1 ez_1 => ?_)
  have tz_1 : z_1.toInt = v.toInt := by rw [ez_1]; exact wide_t v
  have az_1 := min_t v
  have bz_1 := max_t v
  refine lv_lconst (v := 0) hx hb dX10_isThing_2 (by decide) ?_
  refine lv_aload_n hx hb dX10_isThing_3 rfl (lv_at hl 0 rfl) ?_
  refine t_getr cf_11 hx hb hts hown hK hT h_a (k := 18) (P := fun q => τ q = 68) rfl (fun _ h9 => h9) fl_X10_37 (fun _ h9 => h9) dX10_isThing_4 (fun q_2 eq_2 hq_2 => ?_)
  refine lv_iconst (v := 0) hx hb dX10_isThing_7 (by decide) ?_
  refine t_iald (n := 5) (i := 0) rfl (by decide) hx hb hK hT hq_2 (hT.len hq_2 (by decide)) ⟨by decide, by decide⟩ dX10_isThing_8 (fun z_3 ez_3 rz_3 => ?_)
  have ez_3 : z_3 = G.1 q_2 0 := ez_3
  have rz_3 : 0 ≤ z_3.toInt ∧ z_3.toInt ≤ 3 := rz_3
  refine lv_iconst (v := 1) hx hb dX10_isThing_9 (by decide) ?_
  refine lv_isub hx hb dX10_isThing_10 ?_
  refine lv_topi (fun z_4 ez_4 => ?_)
  have tz_4 : z_4.toInt = z_3.toInt - 1 := sub_t ez_4 (show -2147483648 ≤ z_3.toInt - 1 by omega) (show z_3.toInt - 1 < 2147483648 by omega)
  refine lv_i2l hx hb dX10_isThing_11 rfl ?_
  refine lv_topl (fun z_5 ez_5 => ?_)
  have tz_5 : z_5.toInt = z_4.toInt := by rw [ez_5]; exact wide_t z_4
  refine pu_calli (runS (As := [.long z_1, .long 0, .long z_5]) (rest := []) ⟨hx, hb, hml, hown, hts⟩ (t_X10_in l D cy base τ G z_1 0 z_5) sS_X10_116 hK ⟨Nat.le_trans hZ hS.1, hT⟩ ⟨Nat.le_of_ble_eq_true rfl, Nat.le_of_ble_eq_true rfl⟩ rfl hl.1 rfl (Nat.le_of_ble_eq_true rfl) dX10_isThing_12 ⟨Nat.le_of_ble_eq_true rfl, Nat.le_of_ble_eq_true rfl⟩) (fun r_6 hr_6 => ?_)
  have hr_6_c := hr_6
  rcases hr_6_c with hr_6_0 | hr_6_1
  · skip
    obtain ⟨er_6, hr_6_0_f0, hr_6_0_f1⟩ := hr_6_0
    have hr_6_0_f0 : 0 ≤ z_1.toInt := hr_6_0_f0
    have hr_6_0_f1 : z_1.toInt ≤ z_5.toInt := hr_6_0_f1
    subst er_6
    refine W.eq (g2 := F0 m 15 ls [.int 1]) rfl ?_
    exact ret_z (ty := .boolean) hx hb hr rfl hlocks ⟨rfl, _, rfl, (Or.inl ⟨rfl, (by omega), (by omega)⟩)⟩ (fun _ h => absurd h List.not_mem_nil) (Nat.le_refl _) (Nat.le_refl _) dX10_isThing_15
  · skip
    have er_6 := hr_6_1
    subst er_6
    refine W.eq (g2 := F0 m 15 ls [.int 0]) rfl ?_
    exact ret_z (ty := .boolean) hx hb hr rfl hlocks ⟨rfl, _, rfl, (Or.inr rfl)⟩ (fun _ h => absurd h List.not_mem_nil) (Nat.le_refl _) (Nat.le_refl _) dX10_isThing_15
set_option maxHeartbeats 4000000 in
set_option maxRecDepth 100000 in
theorem t_X10_areTwo (l : Launch) (D : va_G) (cy : Nat → ClassId) (base : Nat) (τ : Nat → Nat) (G : Gh) (a : Nat) (h_a : τ a = 11) (v : Int32) (w : Int32) : MM l yX10_areTwo cX10_areTwo 3 (some .boolean) 2 0 0 D cy [.ref a, .int v, .int w] (PT D cy base τ G) (PuI (fun r => ((r = 1 ∧ 0 ≤ v.toInt ∧ v.toInt ≤ 5 ∧ 0 ≤ w.toInt ∧ w.toInt ≤ 5) ∨ (r = 0)))) noF := by
  refine MM.of (by decide) (Nat.le_of_ble_eq_true rfl) ?_
  intro p e s m below meth c C hPT ls hl
  obtain ⟨hx, hb, hr, hml, hown, hts, hlocks, hK, hnm⟩ := C
  obtain ⟨hZ, hT⟩ := hPT
  have hS : va_S (RA base) s.heap s.heap [] := va_S.rf
  have hl : lv_has ls 3 [(0, .ref a), (1, .int v), (2, .int w)] := hl
  refine lv_aload_n hx hb dX10_areTwo_0 rfl (lv_at hl 0 rfl) ?_
  refine lv_iload_n hx hb dX10_areTwo_1 rfl (lv_at hl 1 rfl) ?_
  refine pu_calli (runV (As := [.int v]) (rest := []) ⟨hx, hb, hml, hown, hts⟩ (t_X10_isValley l D cy base τ G a h_a v) sV_X10_297 hK (t_recv cf_11 hK hT h_a) ⟨Nat.le_trans hZ hS.1, hT⟩ ⟨Nat.le_of_ble_eq_true rfl, Nat.le_of_ble_eq_true rfl⟩ rfl hl.1 rfl (Nat.le_of_ble_eq_true rfl) dX10_areTwo_2 ⟨Nat.le_of_ble_eq_true rfl, Nat.le_of_ble_eq_true rfl⟩) (fun r_1 hr_1 => ?_)
  have hr_1_c := hr_1
  rcases hr_1_c with hr_1_0 | hr_1_1
  · skip
    obtain ⟨er_1, hr_1_0_f0, hr_1_0_f1⟩ := hr_1_0
    have hr_1_0_f0 : 0 ≤ v.toInt := hr_1_0_f0
    have hr_1_0_f1 : v.toInt ≤ 5 := hr_1_0_f1
    subst er_1
    refine W.eq (g2 := F0 m 5 ls [.int 1]) rfl ?_
    refine lv_if_eq (tgt := 25) hx hb dX10_areTwo_5 (by decide) (fun c_2 => absurd c_2 (by decide)) (fun _ => ?_)
    refine lv_aload_n hx hb dX10_areTwo_8 rfl (lv_at hl 0 rfl) ?_
    refine lv_iload_n hx hb dX10_areTwo_9 rfl (lv_at hl 2 rfl) ?_
    refine pu_calli (runV (As := [.int w]) (rest := []) ⟨hx, hb, hml, hown, hts⟩ (t_X10_isValley l D cy base τ G a h_a w) sV_X10_297 hK (t_recv cf_11 hK hT h_a) ⟨Nat.le_trans hZ hS.1, hT⟩ ⟨Nat.le_of_ble_eq_true rfl, Nat.le_of_ble_eq_true rfl⟩ rfl hl.1 rfl (Nat.le_of_ble_eq_true rfl) dX10_areTwo_10 ⟨Nat.le_of_ble_eq_true rfl, Nat.le_of_ble_eq_true rfl⟩) (fun r_3 hr_3 => ?_)
    have hr_3_c := hr_3
    rcases hr_3_c with hr_3_0 | hr_3_1
    · skip
      obtain ⟨er_3, hr_3_0_f0, hr_3_0_f1⟩ := hr_3_0
      have hr_3_0_f0 : 0 ≤ w.toInt := hr_3_0_f0
      have hr_3_0_f1 : w.toInt ≤ 5 := hr_3_0_f1
      subst er_3
      refine W.eq (g2 := F0 m 13 ls [.int 1]) rfl ?_
      refine lv_if_eq (tgt := 25) hx hb dX10_areTwo_13 (by decide) (fun c_4 => absurd c_4 (by decide)) (fun _ => ?_)
      refine lv_iload_n hx hb dX10_areTwo_16 rfl (lv_at hl 1 rfl) ?_
      refine lv_iload_n hx hb dX10_areTwo_17 rfl (lv_at hl 2 rfl) ?_
      refine lv_icmp_eq (tgt := 25) hx hb dX10_areTwo_18 (by decide) (fun c_5 => ?_) (fun c_5 => ?_)
      · skip
        have tc_5 : v.toInt = w.toInt := (fa_eq _ _).mp c_5
        refine lv_iconst (v := 0) hx hb dX10_areTwo_25 (by decide) ?_
        exact ret_z (ty := .boolean) hx hb hr rfl hlocks ⟨rfl, _, rfl, (Or.inr rfl)⟩ (fun _ h => absurd h List.not_mem_nil) (Nat.le_refl _) (Nat.le_refl _) dX10_areTwo_26
      · skip
        have tc_5 : ¬ v.toInt = w.toInt := fun h => c_5 ((fa_eq _ _).mpr h)
        refine lv_iconst (v := 1) hx hb dX10_areTwo_21 (by decide) ?_
        refine lv_goto (tgt := 26) hx hb dX10_areTwo_22 (by decide) ?_
        exact ret_z (ty := .boolean) hx hb hr rfl hlocks ⟨rfl, _, rfl, (Or.inl ⟨rfl, (by omega), (by omega), (by omega), (by omega)⟩)⟩ (fun _ h => absurd h List.not_mem_nil) (Nat.le_refl _) (Nat.le_refl _) dX10_areTwo_26
    · skip
      have er_3 := hr_3_1
      subst er_3
      refine W.eq (g2 := F0 m 13 ls [.int 0]) rfl ?_
      refine lv_if_eq (tgt := 25) hx hb dX10_areTwo_13 (by decide) (fun _ => ?_) (fun c_6 => absurd (by decide) c_6)
      refine lv_iconst (v := 0) hx hb dX10_areTwo_25 (by decide) ?_
      exact ret_z (ty := .boolean) hx hb hr rfl hlocks ⟨rfl, _, rfl, (Or.inr rfl)⟩ (fun _ h => absurd h List.not_mem_nil) (Nat.le_refl _) (Nat.le_refl _) dX10_areTwo_26
  · skip
    have er_1 := hr_1_1
    subst er_1
    refine W.eq (g2 := F0 m 5 ls [.int 0]) rfl ?_
    refine lv_if_eq (tgt := 25) hx hb dX10_areTwo_5 (by decide) (fun _ => ?_) (fun c_7 => absurd (by decide) c_7)
    refine lv_iconst (v := 0) hx hb dX10_areTwo_25 (by decide) ?_
    exact ret_z (ty := .boolean) hx hb hr rfl hlocks ⟨rfl, _, rfl, (Or.inr rfl)⟩ (fun _ h => absurd h List.not_mem_nil) (Nat.le_refl _) (Nat.le_refl _) dX10_areTwo_26
set_option maxHeartbeats 4000000 in
set_option maxRecDepth 100000 in
theorem t_X10_isStore (l : Launch) (D : va_G) (cy : Nat → ClassId) (base : Nat) (τ : Nat → Nat) (G : Gh) (a : Nat) (h_a : τ a = 11) (v : Int32) (w : Int32) (z : Int32) : MM l yX10_isStore cX10_isStore 4 (some .boolean) 2 0 0 D cy [.ref a, .int v, .int w, .int z] (PT D cy base τ G) (PuI (fun r => ((r = 1 ∧ 0 ≤ v.toInt ∧ v.toInt ≤ 5 ∧ 0 ≤ w.toInt ∧ w.toInt ≤ 2 ∧ 0 ≤ z.toInt ∧ z.toInt ≤ 999) ∨ (r = 0)))) noF := by
  refine MM.of (by decide) (Nat.le_of_ble_eq_true rfl) ?_
  intro p e s m below meth c C hPT ls hl
  obtain ⟨hx, hb, hr, hml, hown, hts, hlocks, hK, hnm⟩ := C
  obtain ⟨hZ, hT⟩ := hPT
  have hS : va_S (RA base) s.heap s.heap [] := va_S.rf
  have hl : lv_has ls 4 [(0, .ref a), (1, .int v), (2, .int w), (3, .int z)] := hl
  refine lv_aload_n hx hb dX10_isStore_0 rfl (lv_at hl 0 rfl) ?_
  refine lv_iload_n hx hb dX10_isStore_1 rfl (lv_at hl 1 rfl) ?_
  refine pu_calli (runV (As := [.int v]) (rest := []) ⟨hx, hb, hml, hown, hts⟩ (t_X10_isValley l D cy base τ G a h_a v) sV_X10_297 hK (t_recv cf_11 hK hT h_a) ⟨Nat.le_trans hZ hS.1, hT⟩ ⟨Nat.le_of_ble_eq_true rfl, Nat.le_of_ble_eq_true rfl⟩ rfl hl.1 rfl (Nat.le_of_ble_eq_true rfl) dX10_isStore_2 ⟨Nat.le_of_ble_eq_true rfl, Nat.le_of_ble_eq_true rfl⟩) (fun r_1 hr_1 => ?_)
  have hr_1_c := hr_1
  rcases hr_1_c with hr_1_0 | hr_1_1
  · skip
    obtain ⟨er_1, hr_1_0_f0, hr_1_0_f1⟩ := hr_1_0
    have hr_1_0_f0 : 0 ≤ v.toInt := hr_1_0_f0
    have hr_1_0_f1 : v.toInt ≤ 5 := hr_1_0_f1
    subst er_1
    refine W.eq (g2 := F0 m 5 ls [.int 1]) rfl ?_
    refine lv_if_eq (tgt := 28) hx hb dX10_isStore_5 (by decide) (fun c_2 => absurd c_2 (by decide)) (fun _ => ?_)
    refine lv_aload_n hx hb dX10_isStore_8 rfl (lv_at hl 0 rfl) ?_
    refine lv_iload_n hx hb dX10_isStore_9 rfl (lv_at hl 2 rfl) ?_
    refine pu_calli (runV (As := [.int w]) (rest := []) ⟨hx, hb, hml, hown, hts⟩ (t_X10_isThing l D cy base τ G a h_a w) sV_X10_350 hK (t_recv cf_11 hK hT h_a) ⟨Nat.le_trans hZ hS.1, hT⟩ ⟨Nat.le_of_ble_eq_true rfl, Nat.le_of_ble_eq_true rfl⟩ rfl hl.1 rfl (Nat.le_of_ble_eq_true rfl) dX10_isStore_10 ⟨Nat.le_of_ble_eq_true rfl, Nat.le_of_ble_eq_true rfl⟩) (fun r_3 hr_3 => ?_)
    have hr_3_c := hr_3
    rcases hr_3_c with hr_3_0 | hr_3_1
    · skip
      obtain ⟨er_3, hr_3_0_f0, hr_3_0_f1⟩ := hr_3_0
      have hr_3_0_f0 : 0 ≤ w.toInt := hr_3_0_f0
      have hr_3_0_f1 : w.toInt ≤ 2 := hr_3_0_f1
      subst er_3
      refine W.eq (g2 := F0 m 13 ls [.int 1]) rfl ?_
      refine lv_if_eq (tgt := 28) hx hb dX10_isStore_13 (by decide) (fun c_4 => absurd c_4 (by decide)) (fun _ => ?_)
      refine lv_aload_n hx hb dX10_isStore_16 rfl (lv_at hl 0 rfl) ?_
      refine lv_iload_n hx hb dX10_isStore_17 rfl (lv_at hl 3 rfl) ?_
      refine pu_calli (runV (As := [.int z]) (rest := []) ⟨hx, hb, hml, hown, hts⟩ (t_X10_areSacks l D cy base τ G a h_a z) sV_X10_372 hK (t_recv cf_11 hK hT h_a) ⟨Nat.le_trans hZ hS.1, hT⟩ ⟨Nat.le_of_ble_eq_true rfl, Nat.le_of_ble_eq_true rfl⟩ rfl hl.1 rfl (Nat.le_of_ble_eq_true rfl) dX10_isStore_18 ⟨Nat.le_of_ble_eq_true rfl, Nat.le_of_ble_eq_true rfl⟩) (fun r_5 hr_5 => ?_)
      have hr_5_c := hr_5
      rcases hr_5_c with hr_5_0 | hr_5_1
      · skip
        obtain ⟨er_5, hr_5_0_f0, hr_5_0_f1⟩ := hr_5_0
        have hr_5_0_f0 : 0 ≤ z.toInt := hr_5_0_f0
        have hr_5_0_f1 : z.toInt ≤ 999 := hr_5_0_f1
        subst er_5
        refine W.eq (g2 := F0 m 21 ls [.int 1]) rfl ?_
        refine lv_if_eq (tgt := 28) hx hb dX10_isStore_21 (by decide) (fun c_6 => absurd c_6 (by decide)) (fun _ => ?_)
        refine lv_iconst (v := 1) hx hb dX10_isStore_24 (by decide) ?_
        refine lv_goto (tgt := 29) hx hb dX10_isStore_25 (by decide) ?_
        exact ret_z (ty := .boolean) hx hb hr rfl hlocks ⟨rfl, _, rfl, (Or.inl ⟨rfl, (by omega), (by omega), (by omega), (by omega), (by omega), (by omega)⟩)⟩ (fun _ h => absurd h List.not_mem_nil) (Nat.le_refl _) (Nat.le_refl _) dX10_isStore_29
      · skip
        have er_5 := hr_5_1
        subst er_5
        refine W.eq (g2 := F0 m 21 ls [.int 0]) rfl ?_
        refine lv_if_eq (tgt := 28) hx hb dX10_isStore_21 (by decide) (fun _ => ?_) (fun c_7 => absurd (by decide) c_7)
        refine lv_iconst (v := 0) hx hb dX10_isStore_28 (by decide) ?_
        exact ret_z (ty := .boolean) hx hb hr rfl hlocks ⟨rfl, _, rfl, (Or.inr rfl)⟩ (fun _ h => absurd h List.not_mem_nil) (Nat.le_refl _) (Nat.le_refl _) dX10_isStore_29
    · skip
      have er_3 := hr_3_1
      subst er_3
      refine W.eq (g2 := F0 m 13 ls [.int 0]) rfl ?_
      refine lv_if_eq (tgt := 28) hx hb dX10_isStore_13 (by decide) (fun _ => ?_) (fun c_8 => absurd (by decide) c_8)
      refine lv_iconst (v := 0) hx hb dX10_isStore_28 (by decide) ?_
      exact ret_z (ty := .boolean) hx hb hr rfl hlocks ⟨rfl, _, rfl, (Or.inr rfl)⟩ (fun _ h => absurd h List.not_mem_nil) (Nat.le_refl _) (Nat.le_refl _) dX10_isStore_29
  · skip
    have er_1 := hr_1_1
    subst er_1
    refine W.eq (g2 := F0 m 5 ls [.int 0]) rfl ?_
    refine lv_if_eq (tgt := 28) hx hb dX10_isStore_5 (by decide) (fun _ => ?_) (fun c_9 => absurd (by decide) c_9)
    refine lv_iconst (v := 0) hx hb dX10_isStore_28 (by decide) ?_
    exact ret_z (ty := .boolean) hx hb hr rfl hlocks ⟨rfl, _, rfl, (Or.inr rfl)⟩ (fun _ h => absurd h List.not_mem_nil) (Nat.le_refl _) (Nat.le_refl _) dX10_isStore_29
set_option maxHeartbeats 4000000 in
set_option maxRecDepth 100000 in
theorem t_X10_shutOf (l : Launch) (D : va_G) (cy : Nat → ClassId) (base : Nat) (τ : Nat → Nat) (G : Gh) (a : Nat) (h_a : τ a = 11) (v : Int32) (r_v : 0 ≤ v.toInt ∧ v.toInt ≤ 5) : MM l yX10_shutOf cX10_shutOf 2 (some .int) 0 0 0 D cy [.ref a, .int v] (PT D cy base τ G) (PuI (fun r => True)) noF := by
  refine MM.of (by decide) (Nat.le_of_ble_eq_true rfl) ?_
  intro p e s m below meth c C hPT ls hl
  obtain ⟨hx, hb, hr, hml, hown, hts, hlocks, hK, hnm⟩ := C
  obtain ⟨hZ, hT⟩ := hPT
  have hS : va_S (RA base) s.heap s.heap [] := va_S.rf
  have hl : lv_has ls 2 [(0, .ref a), (1, .int v)] := hl
  refine lv_aload_n hx hb dX10_shutOf_0 rfl (lv_at hl 0 rfl) ?_
  refine t_getr cf_11 hx hb hts hown hK hT h_a (k := 21) (P := fun q => τ q = 71) rfl (fun _ h9 => h9) fl_X10_46 (fun _ h9 => h9) dX10_shutOf_1 (fun q_1 eq_1 hq_1 => ?_)
  refine lv_iconst (v := 5) hx hb dX10_shutOf_4 (by decide) ?_
  refine lv_iload_n hx hb dX10_shutOf_5 rfl (lv_at hl 1 rfl) ?_
  refine lv_imul hx hb dX10_shutOf_6 ?_
  refine lv_topi (fun z_2 ez_2 => ?_)
  have tz_2 : z_2.toInt = 5 * v.toInt := mul_t ez_2 (show -2147483648 ≤ 5 * v.toInt by omega) (show 5 * v.toInt < 2147483648 by omega)
  refine t_iald (n := 150) (i := z_2) rfl (by decide) hx hb hK hT hq_1 (hT.len hq_1 (by decide)) ⟨by omega, by omega⟩ dX10_shutOf_7 (fun z_3 ez_3 rz_3 => ?_)
  exact ret_i hx hb hr hlocks ⟨rfl, _, rfl, trivial⟩ (fun _ h => absurd h List.not_mem_nil) (Nat.le_refl _) (Nat.le_refl _) dX10_shutOf_8
set_option maxHeartbeats 4000000 in
set_option maxRecDepth 100000 in
theorem t_X10_wantOf (l : Launch) (D : va_G) (cy : Nat → ClassId) (base : Nat) (τ : Nat → Nat) (G : Gh) (a : Nat) (h_a : τ a = 11) (v : Int32) (r_v : 0 ≤ v.toInt ∧ v.toInt ≤ 5) (w : Int32) (r_w : 0 ≤ w.toInt ∧ w.toInt ≤ 2) : MM l yX10_wantOf cX10_wantOf 3 (some .int) 0 0 0 D cy [.ref a, .int v, .int w] (PT D cy base τ G) (PuI (fun r => 0 ≤ r.toInt ∧ r.toInt ≤ 9)) noF := by
  refine MM.of (by decide) (Nat.le_of_ble_eq_true rfl) ?_
  intro p e s m below meth c C hPT ls hl
  obtain ⟨hx, hb, hr, hml, hown, hts, hlocks, hK, hnm⟩ := C
  obtain ⟨hZ, hT⟩ := hPT
  have hS : va_S (RA base) s.heap s.heap [] := va_S.rf
  have hl : lv_has ls 3 [(0, .ref a), (1, .int v), (2, .int w)] := hl
  refine lv_aload_n hx hb dX10_wantOf_0 rfl (lv_at hl 0 rfl) ?_
  refine t_getr cf_11 hx hb hts hown hK hT h_a (k := 21) (P := fun q => τ q = 71) rfl (fun _ h9 => h9) fl_X10_46 (fun _ h9 => h9) dX10_wantOf_1 (fun q_1 eq_1 hq_1 => ?_)
  refine lv_iconst (v := 5) hx hb dX10_wantOf_4 (by decide) ?_
  refine lv_iload_n hx hb dX10_wantOf_5 rfl (lv_at hl 1 rfl) ?_
  refine lv_imul hx hb dX10_wantOf_6 ?_
  refine lv_topi (fun z_2 ez_2 => ?_)
  have tz_2 : z_2.toInt = 5 * v.toInt := mul_t ez_2 (show -2147483648 ≤ 5 * v.toInt by omega) (show 5 * v.toInt < 2147483648 by omega)
  refine lv_iconst (v := 2) hx hb dX10_wantOf_7 (by decide) ?_
  refine lv_iadd hx hb dX10_wantOf_8 ?_
  refine lv_topi (fun z_3 ez_3 => ?_)
  have tz_3 : z_3.toInt = z_2.toInt + 2 := add_t ez_3 (show -2147483648 ≤ z_2.toInt + 2 by omega) (show z_2.toInt + 2 < 2147483648 by omega)
  refine lv_iload_n hx hb dX10_wantOf_9 rfl (lv_at hl 2 rfl) ?_
  refine lv_iadd hx hb dX10_wantOf_10 ?_
  refine lv_topi (fun z_4 ez_4 => ?_)
  have tz_4 : z_4.toInt = z_3.toInt + w.toInt := add_t ez_4 (show -2147483648 ≤ z_3.toInt + w.toInt by omega) (show z_3.toInt + w.toInt < 2147483648 by omega)
  refine t_iald (n := 150) (i := z_4) rfl (by decide) hx hb hK hT hq_1 (hT.len hq_1 (by decide)) ⟨by omega, by omega⟩ dX10_wantOf_11 (fun z_5 ez_5 rz_5 => ?_)
  have qz_5 : (z_4.toInt.toNat % 5 = 1 → 0 ≤ z_5.toInt ∧ z_5.toInt ≤ 999) ∧ (z_4.toInt.toNat % 5 = 2 → 0 ≤ z_5.toInt ∧ z_5.toInt ≤ 9) ∧ (z_4.toInt.toNat % 5 = 3 → 0 ≤ z_5.toInt ∧ z_5.toInt ≤ 9) ∧ (z_4.toInt.toNat % 5 = 4 → 0 ≤ z_5.toInt ∧ z_5.toInt ≤ 9) := rz_5
  have rz_5 : 0 ≤ z_5.toInt ∧ z_5.toInt ≤ 9 := by omega
  exact ret_i hx hb hr hlocks ⟨rfl, _, rfl, ⟨(by omega), (by omega)⟩⟩ (fun _ h => absurd h List.not_mem_nil) (Nat.le_refl _) (Nat.le_refl _) dX10_wantOf_12
set_option maxHeartbeats 4000000 in
set_option maxRecDepth 100000 in
theorem t_X10_priceOf (l : Launch) (D : va_G) (cy : Nat → ClassId) (base : Nat) (τ : Nat → Nat) (G : Gh) (a : Nat) (h_a : τ a = 11) (v : Int32) (r_v : 0 ≤ v.toInt ∧ v.toInt ≤ 2) : MM l yX10_priceOf cX10_priceOf 2 (some .int) 0 0 0 D cy [.ref a, .int v] (PT D cy base τ G) (PuI (fun r => True)) noF := by
  refine MM.of (by decide) (Nat.le_of_ble_eq_true rfl) ?_
  intro p e s m below meth c C hPT ls hl
  obtain ⟨hx, hb, hr, hml, hown, hts, hlocks, hK, hnm⟩ := C
  obtain ⟨hZ, hT⟩ := hPT
  have hS : va_S (RA base) s.heap s.heap [] := va_S.rf
  have hl : lv_has ls 2 [(0, .ref a), (1, .int v)] := hl
  refine lv_aload_n hx hb dX10_priceOf_0 rfl (lv_at hl 0 rfl) ?_
  refine t_getr cf_11 hx hb hts hown hK hT h_a (k := 19) (P := fun q => τ q = 69) rfl (fun _ h9 => h9) fl_X10_40 (fun _ h9 => h9) dX10_priceOf_1 (fun q_1 eq_1 hq_1 => ?_)
  refine lv_iconst (v := 3) hx hb dX10_priceOf_4 (by decide) ?_
  refine lv_iload_n hx hb dX10_priceOf_5 rfl (lv_at hl 1 rfl) ?_
  refine lv_imul hx hb dX10_priceOf_6 ?_
  refine lv_topi (fun z_2 ez_2 => ?_)
  have tz_2 : z_2.toInt = 3 * v.toInt := mul_t ez_2 (show -2147483648 ≤ 3 * v.toInt by omega) (show 3 * v.toInt < 2147483648 by omega)
  refine t_iald (n := 45) (i := z_2) rfl (by decide) hx hb hK hT hq_1 (hT.len hq_1 (by decide)) ⟨by omega, by omega⟩ dX10_priceOf_7 (fun z_3 ez_3 rz_3 => ?_)
  exact ret_i hx hb hr hlocks ⟨rfl, _, rfl, trivial⟩ (fun _ h => absurd h List.not_mem_nil) (Nat.le_refl _) (Nat.le_refl _) dX10_priceOf_8
set_option maxHeartbeats 4000000 in
set_option maxRecDepth 100000 in
theorem t_X10_harmOf (l : Launch) (D : va_G) (cy : Nat → ClassId) (base : Nat) (τ : Nat → Nat) (G : Gh) (a : Nat) (h_a : τ a = 11) (v : Int32) (r_v : 0 ≤ v.toInt ∧ v.toInt ≤ 2) : MM l yX10_harmOf cX10_harmOf 2 (some .int) 0 0 0 D cy [.ref a, .int v] (PT D cy base τ G) (PuI (fun r => True)) noF := by
  refine MM.of (by decide) (Nat.le_of_ble_eq_true rfl) ?_
  intro p e s m below meth c C hPT ls hl
  obtain ⟨hx, hb, hr, hml, hown, hts, hlocks, hK, hnm⟩ := C
  obtain ⟨hZ, hT⟩ := hPT
  have hS : va_S (RA base) s.heap s.heap [] := va_S.rf
  have hl : lv_has ls 2 [(0, .ref a), (1, .int v)] := hl
  refine lv_aload_n hx hb dX10_harmOf_0 rfl (lv_at hl 0 rfl) ?_
  refine t_getr cf_11 hx hb hts hown hK hT h_a (k := 19) (P := fun q => τ q = 69) rfl (fun _ h9 => h9) fl_X10_40 (fun _ h9 => h9) dX10_harmOf_1 (fun q_1 eq_1 hq_1 => ?_)
  refine lv_iconst (v := 3) hx hb dX10_harmOf_4 (by decide) ?_
  refine lv_iload_n hx hb dX10_harmOf_5 rfl (lv_at hl 1 rfl) ?_
  refine lv_imul hx hb dX10_harmOf_6 ?_
  refine lv_topi (fun z_2 ez_2 => ?_)
  have tz_2 : z_2.toInt = 3 * v.toInt := mul_t ez_2 (show -2147483648 ≤ 3 * v.toInt by omega) (show 3 * v.toInt < 2147483648 by omega)
  refine lv_iconst (v := 1) hx hb dX10_harmOf_7 (by decide) ?_
  refine lv_iadd hx hb dX10_harmOf_8 ?_
  refine lv_topi (fun z_3 ez_3 => ?_)
  have tz_3 : z_3.toInt = z_2.toInt + 1 := add_t ez_3 (show -2147483648 ≤ z_2.toInt + 1 by omega) (show z_2.toInt + 1 < 2147483648 by omega)
  refine t_iald (n := 45) (i := z_3) rfl (by decide) hx hb hK hT hq_1 (hT.len hq_1 (by decide)) ⟨by omega, by omega⟩ dX10_harmOf_9 (fun z_4 ez_4 rz_4 => ?_)
  exact ret_i hx hb hr hlocks ⟨rfl, _, rfl, trivial⟩ (fun _ h => absurd h List.not_mem_nil) (Nat.le_refl _) (Nat.le_refl _) dX10_harmOf_10
set_option maxHeartbeats 4000000 in
set_option maxRecDepth 100000 in
theorem t_X10_backOf (l : Launch) (D : va_G) (cy : Nat → ClassId) (base : Nat) (τ : Nat → Nat) (G : Gh) (a : Nat) (h_a : τ a = 11) (v : Int32) (r_v : 0 ≤ v.toInt ∧ v.toInt ≤ 2) : MM l yX10_backOf cX10_backOf 2 (some .int) 0 0 0 D cy [.ref a, .int v] (PT D cy base τ G) (PuI (fun r => True)) noF := by
  refine MM.of (by decide) (Nat.le_of_ble_eq_true rfl) ?_
  intro p e s m below meth c C hPT ls hl
  obtain ⟨hx, hb, hr, hml, hown, hts, hlocks, hK, hnm⟩ := C
  obtain ⟨hZ, hT⟩ := hPT
  have hS : va_S (RA base) s.heap s.heap [] := va_S.rf
  have hl : lv_has ls 2 [(0, .ref a), (1, .int v)] := hl
  refine lv_aload_n hx hb dX10_backOf_0 rfl (lv_at hl 0 rfl) ?_
  refine t_getr cf_11 hx hb hts hown hK hT h_a (k := 19) (P := fun q => τ q = 69) rfl (fun _ h9 => h9) fl_X10_40 (fun _ h9 => h9) dX10_backOf_1 (fun q_1 eq_1 hq_1 => ?_)
  refine lv_iconst (v := 3) hx hb dX10_backOf_4 (by decide) ?_
  refine lv_iload_n hx hb dX10_backOf_5 rfl (lv_at hl 1 rfl) ?_
  refine lv_imul hx hb dX10_backOf_6 ?_
  refine lv_topi (fun z_2 ez_2 => ?_)
  have tz_2 : z_2.toInt = 3 * v.toInt := mul_t ez_2 (show -2147483648 ≤ 3 * v.toInt by omega) (show 3 * v.toInt < 2147483648 by omega)
  refine lv_iconst (v := 2) hx hb dX10_backOf_7 (by decide) ?_
  refine lv_iadd hx hb dX10_backOf_8 ?_
  refine lv_topi (fun z_3 ez_3 => ?_)
  have tz_3 : z_3.toInt = z_2.toInt + 2 := add_t ez_3 (show -2147483648 ≤ z_2.toInt + 2 by omega) (show z_2.toInt + 2 < 2147483648 by omega)
  refine t_iald (n := 45) (i := z_3) rfl (by decide) hx hb hK hT hq_1 (hT.len hq_1 (by decide)) ⟨by omega, by omega⟩ dX10_backOf_9 (fun z_4 ez_4 rz_4 => ?_)
  exact ret_i hx hb hr hlocks ⟨rfl, _, rfl, trivial⟩ (fun _ h => absurd h List.not_mem_nil) (Nat.le_refl _) (Nat.le_refl _) dX10_backOf_10
set_option maxHeartbeats 4000000 in
set_option maxRecDepth 100000 in
theorem t_X10_hundredths (l : Launch) (D : va_G) (cy : Nat → ClassId) (base : Nat) (τ : Nat → Nat) (G : Gh) (v : Int64) (w : Int32) : MM l yX10_hundredths cX10_hundredths 3 (some .long) 0 0 0 D cy [.long v, .int w] (PT D cy base τ G) (PuL (fun r => True)) noF := by
  refine MM.of (by decide) (Nat.le_of_ble_eq_true rfl) ?_
  intro p e s m below meth c C hPT ls hl
  obtain ⟨hx, hb, hr, hml, hown, hts, hlocks, hK, hnm⟩ := C
  obtain ⟨hZ, hT⟩ := hPT
  have hS : va_S (RA base) s.heap s.heap [] := va_S.rf
  have hl : lv_has ls 3 [(0, .long v), (2, .int w)] := hl
  refine lv_lload_n hx hb dX10_hundredths_0 rfl (lv_at hl 0 rfl) ?_
  refine lv_iload_n hx hb dX10_hundredths_1 rfl (lv_at hl 1 rfl) ?_
  refine lv_i2l hx hb dX10_hundredths_2 rfl ?_
  refine lv_topl (fun z_1 ez_1 => ?_)
  have tz_1 : z_1.toInt = w.toInt := by rw [ez_1]; exact wide_t w
  have az_1 := min_t w
  have bz_1 := max_t w
  refine lv_lmul hx hb dX10_hundredths_3 ?_
  refine lv_topl (fun z_2 ez_2 => ?_)
  refine lv_ldc2 (v := 100) hx hb hown (hts _ kl_X10_282) dX10_hundredths_4 ?_
  refine lv_ldiv hx hb dX10_hundredths_7 (by decide) ?_
  refine lv_topl (fun z_3 ez_3 => ?_)
  exact ret_l hx hb hr hlocks ⟨rfl, _, rfl, trivial⟩ (fun _ h => absurd h List.not_mem_nil) (Nat.le_refl _) (Nat.le_refl _) dX10_hundredths_8
set_option maxHeartbeats 4000000 in
set_option maxRecDepth 100000 in
theorem t_X10_chance (l : Launch) (D : va_G) (cy : Nat → ClassId) (base : Nat) (τ : Nat → Nat) (G : Gh) (a : Nat) (h_a : τ a = 11) (v : Int32) (w : Int32) : MM l yX10_chance cX10_chance 3 (some .int) 0 0 0 D cy [.ref a, .int v, .int w] (PT D cy base τ G) (PuI (fun r => True)) noF := by
  refine MM.of (by decide) (Nat.le_of_ble_eq_true rfl) ?_
  intro p e s m below meth c C hPT ls hl
  obtain ⟨hx, hb, hr, hml, hown, hts, hlocks, hK, hnm⟩ := C
  obtain ⟨hZ, hT⟩ := hPT
  have hS : va_S (RA base) s.heap s.heap [] := va_S.rf
  have hl : lv_has ls 3 [(0, .ref a), (1, .int v), (2, .int w)] := hl
  refine lv_iload_n hx hb dX10_chance_0 rfl (lv_at hl 1 rfl) ?_
  refine lv_iconst (v := 1) hx hb dX10_chance_1 (by decide) ?_
  refine lv_icmp_ne (tgt := 14) hx hb dX10_chance_2 (by decide) (fun c_1 => ?_) (fun c_1 => ?_)
  · skip
    have tc_1 : ¬ v.toInt = 1 := fun h => c_1 ((fa_eq _ _).mpr h)
    refine lv_iload_n hx hb dX10_chance_14 rfl (lv_at hl 2 rfl) ?_
    refine lv_if_eq (tgt := 27) hx hb dX10_chance_15 (by decide) (fun c_2 => ?_) (fun c_2 => ?_)
    · skip
      have tc_2 : w.toInt = 0 := (fa_eq _ _).mp c_2
      refine lv_aload_n hx hb dX10_chance_27 rfl (lv_at hl 0 rfl) ?_
      refine t_getr cf_11 hx hb hts hown hK hT h_a (k := 17) (P := fun q => τ q = 67) rfl (fun _ h9 => h9) fl_X10_34 (fun _ h9 => h9) dX10_chance_28 (fun q_3 eq_3 hq_3 => ?_)
      refine lv_iconst (v := 3) hx hb dX10_chance_31 (by decide) ?_
      refine t_iald (n := 20) (i := 3) rfl (by decide) hx hb hK hT hq_3 (hT.len hq_3 (by decide)) ⟨by decide, by decide⟩ dX10_chance_32 (fun z_4 ez_4 rz_4 => ?_)
      have ez_4 : z_4 = G.1 q_3 3 := ez_4
      exact ret_i hx hb hr hlocks ⟨rfl, _, rfl, trivial⟩ (fun _ h => absurd h List.not_mem_nil) (Nat.le_refl _) (Nat.le_refl _) dX10_chance_33
    · skip
      have tc_2 : ¬ w.toInt = 0 := fun h => c_2 ((fa_eq _ _).mpr h)
      refine lv_aload_n hx hb dX10_chance_18 rfl (lv_at hl 0 rfl) ?_
      refine t_getr cf_11 hx hb hts hown hK hT h_a (k := 17) (P := fun q => τ q = 67) rfl (fun _ h9 => h9) fl_X10_34 (fun _ h9 => h9) dX10_chance_19 (fun q_5 eq_5 hq_5 => ?_)
      refine lv_iconst (v := 2) hx hb dX10_chance_22 (by decide) ?_
      refine t_iald (n := 20) (i := 2) rfl (by decide) hx hb hK hT hq_5 (hT.len hq_5 (by decide)) ⟨by decide, by decide⟩ dX10_chance_23 (fun z_6 ez_6 rz_6 => ?_)
      have ez_6 : z_6 = G.1 q_5 2 := ez_6
      refine lv_goto (tgt := 33) hx hb dX10_chance_24 (by decide) ?_
      exact ret_i hx hb hr hlocks ⟨rfl, _, rfl, trivial⟩ (fun _ h => absurd h List.not_mem_nil) (Nat.le_refl _) (Nat.le_refl _) dX10_chance_33
  · skip
    have tc_1 : v.toInt = 1 := (fa_eq _ _).mp c_1
    refine lv_aload_n hx hb dX10_chance_5 rfl (lv_at hl 0 rfl) ?_
    refine t_getr cf_11 hx hb hts hown hK hT h_a (k := 17) (P := fun q => τ q = 67) rfl (fun _ h9 => h9) fl_X10_34 (fun _ h9 => h9) dX10_chance_6 (fun q_7 eq_7 hq_7 => ?_)
    refine lv_iconst (v := 1) hx hb dX10_chance_9 (by decide) ?_
    refine t_iald (n := 20) (i := 1) rfl (by decide) hx hb hK hT hq_7 (hT.len hq_7 (by decide)) ⟨by decide, by decide⟩ dX10_chance_10 (fun z_8 ez_8 rz_8 => ?_)
    have ez_8 : z_8 = G.1 q_7 1 := ez_8
    refine lv_goto (tgt := 33) hx hb dX10_chance_11 (by decide) ?_
    exact ret_i hx hb hr hlocks ⟨rfl, _, rfl, trivial⟩ (fun _ h => absurd h List.not_mem_nil) (Nat.le_refl _) (Nat.le_refl _) dX10_chance_33
set_option maxHeartbeats 4000000 in
set_option maxRecDepth 100000 in
theorem t_X10_wantsOf (l : Launch) (D : va_G) (cy : Nat → ClassId) (base : Nat) (τ : Nat → Nat) (G : Gh) (a : Nat) (h_a : τ a = 11) (v : Int32) (r_v : 0 ≤ v.toInt ∧ v.toInt ≤ 5) (w : Int32) (r_w : 0 ≤ w.toInt ∧ w.toInt ≤ 2) (z : Int32) : MM l yX10_wantsOf cX10_wantsOf 4 (some .int) 1 0 0 D cy [.ref a, .int v, .int w, .int z] (PT D cy base τ G) (PuI (fun r => True)) noF := by
  refine MM.of (by decide) (Nat.le_of_ble_eq_true rfl) ?_
  intro p e s m below meth c C hPT ls hl
  obtain ⟨hx, hb, hr, hml, hown, hts, hlocks, hK, hnm⟩ := C
  obtain ⟨hZ, hT⟩ := hPT
  have hS : va_S (RA base) s.heap s.heap [] := va_S.rf
  have hl : lv_has ls 4 [(0, .ref a), (1, .int v), (2, .int w), (3, .int z)] := hl
  refine lv_iload_n hx hb dX10_wantsOf_0 rfl (lv_at hl 3 rfl) ?_
  refine lv_if_ne (tgt := 8) hx hb dX10_wantsOf_1 (by decide) (fun c_1 => ?_) (fun c_1 => ?_)
  · skip
    have tc_1 : ¬ z.toInt = 0 := fun h => c_1 ((fa_eq _ _).mpr h)
    refine lv_aload_n hx hb dX10_wantsOf_8 rfl (lv_at hl 0 rfl) ?_
    refine lv_iload_n hx hb dX10_wantsOf_9 rfl (lv_at hl 1 rfl) ?_
    refine lv_iload_n hx hb dX10_wantsOf_10 rfl (lv_at hl 2 rfl) ?_
    refine pu_calli (runV (As := [.int v, .int w]) (rest := []) ⟨hx, hb, hml, hown, hts⟩ (t_X10_wantOf l D cy base τ G a h_a v ⟨by omega, by omega⟩ w ⟨by omega, by omega⟩) sV_X10_347 hK (t_recv cf_11 hK hT h_a) ⟨Nat.le_trans hZ hS.1, hT⟩ ⟨Nat.le_of_ble_eq_true rfl, Nat.le_of_ble_eq_true rfl⟩ rfl hl.1 rfl (Nat.le_of_ble_eq_true rfl) dX10_wantsOf_11 ⟨Nat.le_of_ble_eq_true rfl, Nat.le_of_ble_eq_true rfl⟩) (fun r_2 hr_2 => ?_)
    obtain ⟨hr_2_lo, hr_2_hi⟩ := hr_2
    have hr_2_lo : 0 ≤ r_2.toInt := hr_2_lo
    have hr_2_hi : r_2.toInt ≤ 9 := hr_2_hi
    refine lv_aload_n hx hb dX10_wantsOf_14 rfl (lv_at hl 0 rfl) ?_
    obtain ⟨q_3, eq_3, hq_3⟩ := (show ∃ q, G.2.2.1 a 17 = some q ∧ τ q = 67 from hT.rgr h_a (by decide) 17)
    obtain ⟨z_4, ez_4⟩ : ∃ y : Int32, y = G.1 q_3 0 := ⟨_, rfl⟩
    have qz_4 : (0 % 4 = 0 → 0 ≤ z_4.toInt ∧ z_4.toInt ≤ 60) := by rw [ez_4]; exact hT.rgi hq_3 (by decide) 0
    have rz_4 : 0 ≤ z_4.toInt ∧ z_4.toInt ≤ 60 := by omega
    refine pu_calli (runV (As := []) (rest := [.int r_2]) ⟨hx, hb, hml, hown, hts⟩ (t_X10_lastDay l D cy base τ G a h_a q_3 hq_3 eq_3 z_4 ez_4 ⟨by omega, by omega⟩) sV_X10_278 hK (t_recv cf_11 hK hT h_a) ⟨Nat.le_trans hZ hS.1, hT⟩ ⟨Nat.le_of_ble_eq_true rfl, Nat.le_of_ble_eq_true rfl⟩ rfl hl.1 rfl (Nat.le_of_ble_eq_true rfl) dX10_wantsOf_15 ⟨Nat.le_of_ble_eq_true rfl, Nat.le_of_ble_eq_true rfl⟩) (fun r_5 hr_5 => ?_)
    have er_5 := hr_5
    have er_5 := er_5.symm
    subst er_5
    refine W.eq (g2 := F0 m 18 ls [.int z_4, .int r_2]) rfl ?_
    refine lv_iload_n hx hb dX10_wantsOf_18 rfl (lv_at hl 3 rfl) ?_
    refine lv_isub hx hb dX10_wantsOf_19 ?_
    refine lv_topi (fun z_6 ez_6 => ?_)
    refine lv_imul hx hb dX10_wantsOf_20 ?_
    refine lv_topi (fun z_7 ez_7 => ?_)
    exact ret_i hx hb hr hlocks ⟨rfl, _, rfl, trivial⟩ (fun _ h => absurd h List.not_mem_nil) (Nat.le_refl _) (Nat.le_refl _) dX10_wantsOf_21
  · skip
    have tc_1 : z.toInt = 0 := (fa_eq _ _).mp c_1
    refine lv_iconst (v := 0) hx hb dX10_wantsOf_4 (by decide) ?_
    refine lv_goto (tgt := 21) hx hb dX10_wantsOf_5 (by decide) ?_
    exact ret_i hx hb hr hlocks ⟨rfl, _, rfl, trivial⟩ (fun _ h => absurd h List.not_mem_nil) (Nat.le_refl _) (Nat.le_refl _) dX10_wantsOf_21
set_option maxHeartbeats 4000000 in
set_option maxRecDepth 100000 in
theorem t_X10_wantsOf2 (l : Launch) (D : va_G) (cy : Nat → ClassId) (base : Nat) (τ : Nat → Nat) (G : Gh) (a : Nat) (h_a : τ a = 11) (v : Int32) (r_v : 0 ≤ v.toInt ∧ v.toInt ≤ 5) (w : Int32) (r_w : 0 ≤ w.toInt ∧ w.toInt ≤ 2) (z : Int32) (r_z : 0 ≤ z.toInt ∧ z.toInt ≤ 60) (wa : Nat) (h_wa : τ wa = 67) (e_wa : G.2.2.1 a 17 = some wa) (ld0 : Int32) (e_ld0 : ld0 = G.1 wa 0) (r_ld0 : 0 ≤ ld0.toInt ∧ ld0.toInt ≤ 60) (hd : z.toInt ≤ ld0.toInt) : MM l yX10_wantsOf cX10_wantsOf 4 (some .int) 1 0 0 D cy [.ref a, .int v, .int w, .int z] (PT D cy base τ G) (PuI (fun r => 0 ≤ r.toInt ∧ r.toInt ≤ 540)) noF := by
  refine MM.of (by decide) (Nat.le_of_ble_eq_true rfl) ?_
  intro p e s m below meth c C hPT ls hl
  obtain ⟨hx, hb, hr, hml, hown, hts, hlocks, hK, hnm⟩ := C
  obtain ⟨hZ, hT⟩ := hPT
  have hS : va_S (RA base) s.heap s.heap [] := va_S.rf
  have hl : lv_has ls 4 [(0, .ref a), (1, .int v), (2, .int w), (3, .int z)] := hl
  refine lv_iload_n hx hb dX10_wantsOf_0 rfl (lv_at hl 3 rfl) ?_
  refine lv_if_ne (tgt := 8) hx hb dX10_wantsOf_1 (by decide) (fun c_1 => ?_) (fun c_1 => ?_)
  · skip
    have tc_1 : ¬ z.toInt = 0 := fun h => c_1 ((fa_eq _ _).mpr h)
    refine lv_aload_n hx hb dX10_wantsOf_8 rfl (lv_at hl 0 rfl) ?_
    refine lv_iload_n hx hb dX10_wantsOf_9 rfl (lv_at hl 1 rfl) ?_
    refine lv_iload_n hx hb dX10_wantsOf_10 rfl (lv_at hl 2 rfl) ?_
    refine pu_calli (runV (As := [.int v, .int w]) (rest := []) ⟨hx, hb, hml, hown, hts⟩ (t_X10_wantOf l D cy base τ G a h_a v ⟨by omega, by omega⟩ w ⟨by omega, by omega⟩) sV_X10_347 hK (t_recv cf_11 hK hT h_a) ⟨Nat.le_trans hZ hS.1, hT⟩ ⟨Nat.le_of_ble_eq_true rfl, Nat.le_of_ble_eq_true rfl⟩ rfl hl.1 rfl (Nat.le_of_ble_eq_true rfl) dX10_wantsOf_11 ⟨Nat.le_of_ble_eq_true rfl, Nat.le_of_ble_eq_true rfl⟩) (fun r_2 hr_2 => ?_)
    obtain ⟨hr_2_lo, hr_2_hi⟩ := hr_2
    have hr_2_lo : 0 ≤ r_2.toInt := hr_2_lo
    have hr_2_hi : r_2.toInt ≤ 9 := hr_2_hi
    refine lv_aload_n hx hb dX10_wantsOf_14 rfl (lv_at hl 0 rfl) ?_
    refine pu_calli (runV (As := []) (rest := [.int r_2]) ⟨hx, hb, hml, hown, hts⟩ (t_X10_lastDay l D cy base τ G a h_a wa h_wa e_wa ld0 e_ld0 ⟨by omega, by omega⟩) sV_X10_278 hK (t_recv cf_11 hK hT h_a) ⟨Nat.le_trans hZ hS.1, hT⟩ ⟨Nat.le_of_ble_eq_true rfl, Nat.le_of_ble_eq_true rfl⟩ rfl hl.1 rfl (Nat.le_of_ble_eq_true rfl) dX10_wantsOf_15 ⟨Nat.le_of_ble_eq_true rfl, Nat.le_of_ble_eq_true rfl⟩) (fun r_3 hr_3 => ?_)
    have er_3 := hr_3
    have er_3 := er_3.symm
    subst er_3
    refine W.eq (g2 := F0 m 18 ls [.int ld0, .int r_2]) rfl ?_
    refine lv_iload_n hx hb dX10_wantsOf_18 rfl (lv_at hl 3 rfl) ?_
    refine lv_isub hx hb dX10_wantsOf_19 ?_
    refine lv_topi (fun z_4 ez_4 => ?_)
    have tz_4 : z_4.toInt = ld0.toInt - z.toInt := sub_t ez_4 (show -2147483648 ≤ ld0.toInt - z.toInt by omega) (show ld0.toInt - z.toInt < 2147483648 by omega)
    have nn_z_4 : 0 ≤ z_4.toInt ∧ z_4.toInt ≤ 60 := ⟨by omega, by omega⟩
    refine lv_imul hx hb dX10_wantsOf_20 ?_
    refine lv_topi (fun z_5 ez_5 => ?_)
    have tz_5 : 0 ≤ z_5.toInt ∧ z_5.toInt ≤ 540 ∧ z_5.toInt = r_2.toInt * z_4.toInt := mulb_t (a := 9) (b := 60) ez_5 (by omega) (by omega) (by omega) (by omega) (by decide)
    exact ret_i hx hb hr hlocks ⟨rfl, _, rfl, ⟨(by omega), (by omega)⟩⟩ (fun _ h => absurd h List.not_mem_nil) (Nat.le_refl _) (Nat.le_refl _) dX10_wantsOf_21
  · skip
    have tc_1 : z.toInt = 0 := (fa_eq _ _).mp c_1
    refine lv_iconst (v := 0) hx hb dX10_wantsOf_4 (by decide) ?_
    refine lv_goto (tgt := 21) hx hb dX10_wantsOf_5 (by decide) ?_
    exact ret_i hx hb hr hlocks ⟨rfl, _, rfl, ⟨(by decide), (by decide)⟩⟩ (fun _ h => absurd h List.not_mem_nil) (Nat.le_refl _) (Nat.le_refl _) dX10_wantsOf_21
set_option maxHeartbeats 4000000 in
set_option maxRecDepth 100000 in
theorem t_X10_outcome (l : Launch) (D : va_G) (cy : Nat → ClassId) (base : Nat) (τ : Nat → Nat) (G : Gh) (a : Nat) (h_a : τ a = 11) (w : Int32) (r_w : 0 ≤ w.toInt ∧ w.toInt ≤ 2) (y : Int32) (z : Int32) : MM l yX10_outcome cX10_outcome 4 (some .long) 1 0 0 D cy [.ref a, .int w, .int y, .int z] (PT D cy base τ G) (PuL (fun r => True)) noF := by
  refine MM.of (by decide) (Nat.le_of_ble_eq_true rfl) ?_
  intro p e s m below meth c C hPT ls hl
  obtain ⟨hx, hb, hr, hml, hown, hts, hlocks, hK, hnm⟩ := C
  obtain ⟨hZ, hT⟩ := hPT
  have hS : va_S (RA base) s.heap s.heap [] := va_S.rf
  have hl : lv_has ls 4 [(0, .ref a), (1, .int w), (2, .int y), (3, .int z)] := hl
  refine lv_iload_n hx hb dX10_outcome_0 rfl (lv_at hl 2 rfl) ?_
  refine lv_iload_n hx hb dX10_outcome_1 rfl (lv_at hl 3 rfl) ?_
  refine lv_icmp_le (tgt := 19) hx hb dX10_outcome_2 (by decide) (fun c_1 => ?_) (fun c_1 => ?_)
  · skip
    have tc_1 : y.toInt ≤ z.toInt := (fa_le _ _).mp c_1
    refine lv_aload_n hx hb dX10_outcome_19 rfl (lv_at hl 0 rfl) ?_
    refine lv_iload_n hx hb dX10_outcome_20 rfl (lv_at hl 1 rfl) ?_
    refine pu_calli (runV (As := [.int w]) (rest := []) ⟨hx, hb, hml, hown, hts⟩ (t_X10_backOf l D cy base τ G a h_a w ⟨by omega, by omega⟩) sV_X10_360 hK (t_recv cf_11 hK hT h_a) ⟨Nat.le_trans hZ hS.1, hT⟩ ⟨Nat.le_of_ble_eq_true rfl, Nat.le_of_ble_eq_true rfl⟩ rfl hl.1 rfl (Nat.le_of_ble_eq_true rfl) dX10_outcome_21 ⟨Nat.le_of_ble_eq_true rfl, Nat.le_of_ble_eq_true rfl⟩) (fun r_2 hr_2 => ?_)
    refine lv_i2l hx hb dX10_outcome_24 rfl ?_
    refine lv_topl (fun z_3 ez_3 => ?_)
    have tz_3 : z_3.toInt = r_2.toInt := by rw [ez_3]; exact wide_t r_2
    have az_3 := min_t r_2
    have bz_3 := max_t r_2
    refine lv_iload_n hx hb dX10_outcome_25 rfl (lv_at hl 3 rfl) ?_
    refine lv_iload_n hx hb dX10_outcome_26 rfl (lv_at hl 2 rfl) ?_
    refine lv_isub hx hb dX10_outcome_27 ?_
    refine lv_topi (fun z_4 ez_4 => ?_)
    refine lv_i2l hx hb dX10_outcome_28 rfl ?_
    refine lv_topl (fun z_5 ez_5 => ?_)
    have tz_5 : z_5.toInt = z_4.toInt := by rw [ez_5]; exact wide_t z_4
    have az_5 := min_t z_4
    have bz_5 := max_t z_4
    refine lv_lmul hx hb dX10_outcome_29 ?_
    refine lv_topl (fun z_6 ez_6 => ?_)
    exact ret_l hx hb hr hlocks ⟨rfl, _, rfl, trivial⟩ (fun _ h => absurd h List.not_mem_nil) (Nat.le_refl _) (Nat.le_refl _) dX10_outcome_30
  · skip
    have tc_1 : ¬ y.toInt ≤ z.toInt := fun h => c_1 ((fa_le _ _).mpr h)
    have mc_1 : y.toInt ≤ 2147483647 := max_t y
    refine lv_aload_n hx hb dX10_outcome_5 rfl (lv_at hl 0 rfl) ?_
    refine lv_iload_n hx hb dX10_outcome_6 rfl (lv_at hl 1 rfl) ?_
    refine pu_calli (runV (As := [.int w]) (rest := []) ⟨hx, hb, hml, hown, hts⟩ (t_X10_harmOf l D cy base τ G a h_a w ⟨by omega, by omega⟩) sV_X10_357 hK (t_recv cf_11 hK hT h_a) ⟨Nat.le_trans hZ hS.1, hT⟩ ⟨Nat.le_of_ble_eq_true rfl, Nat.le_of_ble_eq_true rfl⟩ rfl hl.1 rfl (Nat.le_of_ble_eq_true rfl) dX10_outcome_7 ⟨Nat.le_of_ble_eq_true rfl, Nat.le_of_ble_eq_true rfl⟩) (fun r_7 hr_7 => ?_)
    refine lv_i2l hx hb dX10_outcome_10 rfl ?_
    refine lv_topl (fun z_8 ez_8 => ?_)
    have tz_8 : z_8.toInt = r_7.toInt := by rw [ez_8]; exact wide_t r_7
    have az_8 := min_t r_7
    have bz_8 := max_t r_7
    refine lv_iload_n hx hb dX10_outcome_11 rfl (lv_at hl 2 rfl) ?_
    refine lv_iload_n hx hb dX10_outcome_12 rfl (lv_at hl 3 rfl) ?_
    refine lv_isub hx hb dX10_outcome_13 ?_
    refine lv_topi (fun z_9 ez_9 => ?_)
    refine lv_i2l hx hb dX10_outcome_14 rfl ?_
    refine lv_topl (fun z_10 ez_10 => ?_)
    have tz_10 : z_10.toInt = z_9.toInt := by rw [ez_10]; exact wide_t z_9
    have az_10 := min_t z_9
    have bz_10 := max_t z_9
    refine lv_lmul hx hb dX10_outcome_15 ?_
    refine lv_topl (fun z_11 ez_11 => ?_)
    refine lv_goto (tgt := 30) hx hb dX10_outcome_16 (by decide) ?_
    exact ret_l hx hb hr hlocks ⟨rfl, _, rfl, trivial⟩ (fun _ h => absurd h List.not_mem_nil) (Nat.le_refl _) (Nat.le_refl _) dX10_outcome_30
set_option maxHeartbeats 4000000 in
set_option maxRecDepth 100000 in
theorem t_X10_at2 (l : Launch) (D : va_G) (cy : Nat → ClassId) (base : Nat) (τ : Nat → Nat) (G : Gh) (v : Int32) (r_v : 0 ≤ v.toInt ∧ v.toInt ≤ 60) (w : Int32) (r_w : 0 ≤ w.toInt ∧ w.toInt ≤ 60) : MM l yX10_at2 cX10_at2 2 (some .int) 0 0 0 D cy [.int v, .int w] (PT D cy base τ G) (PuI (fun r => 0 ≤ r.toInt ∧ r.toInt ≤ 3720)) noF := by
  refine MM.of (by decide) (Nat.le_of_ble_eq_true rfl) ?_
  intro p e s m below meth c C hPT ls hl
  obtain ⟨hx, hb, hr, hml, hown, hts, hlocks, hK, hnm⟩ := C
  obtain ⟨hZ, hT⟩ := hPT
  have hS : va_S (RA base) s.heap s.heap [] := va_S.rf
  have hl : lv_has ls 2 [(0, .int v), (1, .int w)] := hl
  refine lv_bipush (v := 61) hx hb dX10_at2_0 (by decide) ?_
  refine lv_iload_n hx hb dX10_at2_2 rfl (lv_at hl 0 rfl) ?_
  refine lv_imul hx hb dX10_at2_3 ?_
  refine lv_topi (fun z_1 ez_1 => ?_)
  have tz_1 : z_1.toInt = 61 * v.toInt := mul_t ez_1 (show -2147483648 ≤ 61 * v.toInt by omega) (show 61 * v.toInt < 2147483648 by omega)
  refine lv_iload_n hx hb dX10_at2_4 rfl (lv_at hl 1 rfl) ?_
  refine lv_iadd hx hb dX10_at2_5 ?_
  refine lv_topi (fun z_2 ez_2 => ?_)
  have tz_2 : z_2.toInt = z_1.toInt + w.toInt := add_t ez_2 (show -2147483648 ≤ z_1.toInt + w.toInt by omega) (show z_1.toInt + w.toInt < 2147483648 by omega)
  exact ret_i hx hb hr hlocks ⟨rfl, _, rfl, ⟨(by omega), (by omega)⟩⟩ (fun _ h => absurd h List.not_mem_nil) (Nat.le_refl _) (Nat.le_refl _) dX10_at2_6
set_option maxHeartbeats 4000000 in
set_option maxRecDepth 100000 in
theorem t_X10_at3 (l : Launch) (D : va_G) (cy : Nat → ClassId) (base : Nat) (τ : Nat → Nat) (G : Gh) (v : Int32) (r_v : 0 ≤ v.toInt ∧ v.toInt ≤ 61) (w : Int32) (r_w : 0 ≤ w.toInt ∧ w.toInt ≤ 1) (z : Int32) (r_z : 0 ≤ z.toInt ∧ z.toInt ≤ 600) : MM l yX10_at3 cX10_at3 3 (some .int) 0 0 0 D cy [.int v, .int w, .int z] (PT D cy base τ G) (PuI (fun r => 0 ≤ r.toInt ∧ r.toInt ≤ 74523)) noF := by
  refine MM.of (by decide) (Nat.le_of_ble_eq_true rfl) ?_
  intro p e s m below meth c C hPT ls hl
  obtain ⟨hx, hb, hr, hml, hown, hts, hlocks, hK, hnm⟩ := C
  obtain ⟨hZ, hT⟩ := hPT
  have hS : va_S (RA base) s.heap s.heap [] := va_S.rf
  have hl : lv_has ls 3 [(0, .int v), (1, .int w), (2, .int z)] := hl
  refine lv_iconst (v := 2) hx hb dX10_at3_0 (by decide) ?_
  refine lv_iload_n hx hb dX10_at3_1 rfl (lv_at hl 0 rfl) ?_
  refine lv_imul hx hb dX10_at3_2 ?_
  refine lv_topi (fun z_1 ez_1 => ?_)
  have tz_1 : z_1.toInt = 2 * v.toInt := mul_t ez_1 (show -2147483648 ≤ 2 * v.toInt by omega) (show 2 * v.toInt < 2147483648 by omega)
  refine lv_iload_n hx hb dX10_at3_3 rfl (lv_at hl 1 rfl) ?_
  refine lv_if_eq (tgt := 11) hx hb dX10_at3_4 (by decide) (fun c_2 => ?_) (fun c_2 => ?_)
  · skip
    have tc_2 : w.toInt = 0 := (fa_eq _ _).mp c_2
    refine lv_iconst (v := 0) hx hb dX10_at3_11 (by decide) ?_
    refine lv_iadd hx hb dX10_at3_12 ?_
    refine lv_topi (fun z_3 ez_3 => ?_)
    have tz_3 : z_3.toInt = z_1.toInt + 0 := add_t ez_3 (show -2147483648 ≤ z_1.toInt + 0 by omega) (show z_1.toInt + 0 < 2147483648 by omega)
    refine lv_sipush (v := 601) hx hb dX10_at3_13 (by decide) ?_
    refine lv_imul hx hb dX10_at3_16 ?_
    refine lv_topi (fun z_4 ez_4 => ?_)
    have tz_4 : z_4.toInt = z_3.toInt * 601 := mul_t ez_4 (show -2147483648 ≤ z_3.toInt * 601 by omega) (show z_3.toInt * 601 < 2147483648 by omega)
    refine lv_iload_n hx hb dX10_at3_17 rfl (lv_at hl 2 rfl) ?_
    refine lv_iadd hx hb dX10_at3_18 ?_
    refine lv_topi (fun z_5 ez_5 => ?_)
    have tz_5 : z_5.toInt = z_4.toInt + z.toInt := add_t ez_5 (show -2147483648 ≤ z_4.toInt + z.toInt by omega) (show z_4.toInt + z.toInt < 2147483648 by omega)
    exact ret_i hx hb hr hlocks ⟨rfl, _, rfl, ⟨(by omega), (by omega)⟩⟩ (fun _ h => absurd h List.not_mem_nil) (Nat.le_refl _) (Nat.le_refl _) dX10_at3_19
  · skip
    have tc_2 : ¬ w.toInt = 0 := fun h => c_2 ((fa_eq _ _).mpr h)
    refine lv_iconst (v := 1) hx hb dX10_at3_7 (by decide) ?_
    refine lv_goto (tgt := 12) hx hb dX10_at3_8 (by decide) ?_
    refine lv_iadd hx hb dX10_at3_12 ?_
    refine lv_topi (fun z_6 ez_6 => ?_)
    have tz_6 : z_6.toInt = z_1.toInt + 1 := add_t ez_6 (show -2147483648 ≤ z_1.toInt + 1 by omega) (show z_1.toInt + 1 < 2147483648 by omega)
    refine lv_sipush (v := 601) hx hb dX10_at3_13 (by decide) ?_
    refine lv_imul hx hb dX10_at3_16 ?_
    refine lv_topi (fun z_7 ez_7 => ?_)
    have tz_7 : z_7.toInt = z_6.toInt * 601 := mul_t ez_7 (show -2147483648 ≤ z_6.toInt * 601 by omega) (show z_6.toInt * 601 < 2147483648 by omega)
    refine lv_iload_n hx hb dX10_at3_17 rfl (lv_at hl 2 rfl) ?_
    refine lv_iadd hx hb dX10_at3_18 ?_
    refine lv_topi (fun z_8 ez_8 => ?_)
    have tz_8 : z_8.toInt = z_7.toInt + z.toInt := add_t ez_8 (show -2147483648 ≤ z_7.toInt + z.toInt by omega) (show z_7.toInt + z.toInt < 2147483648 by omega)
    exact ret_i hx hb hr hlocks ⟨rfl, _, rfl, ⟨(by omega), (by omega)⟩⟩ (fun _ h => absurd h List.not_mem_nil) (Nat.le_refl _) (Nat.le_refl _) dX10_at3_19
set_option maxHeartbeats 4000000 in
set_option maxRecDepth 100000 in
theorem t_X10_splits (l : Launch) (D : va_G) (cy : Nat → ClassId) (base : Nat) (τ : Nat → Nat) (G : Gh) (a : Nat) (h_a : τ a = 11) (v : Int32) (r_v : 0 ≤ v.toInt ∧ v.toInt ≤ 5) : MM l yX10_splits cX10_splits 11 none 1 0 0 D cy [.ref a, .int v] (PT D cy base τ G) (QT D cy base τ G [79] (fun v g => v = none ∧ (True))) (RA base) := by
  refine MM.of (by decide) (Nat.le_of_ble_eq_true rfl) ?_
  intro p e s m below meth c C hPT ls hl
  obtain ⟨hx, hb, hr, hml, hown, hts, hlocks, hK, hnm⟩ := C
  obtain ⟨hZ, hT⟩ := hPT
  have hS : va_S (RA base) s.heap s.heap [] := va_S.rf
  have hF : Fr τ [79] G G := Fr.rf
  have hl : lv_has ls 11 [(0, .ref a), (1, .int v)] := hl
  refine lv_lconst (v := 0) hx hb dX10_splits_0 (by decide) ?_
  refine lv_lstore_n (lv' := [(2, .long 0), (0, .ref a), (1, .int v)]) hx hb dX10_splits_1 rfl hl (by decide) rfl (fun ls hl => ?_)
  refine lv_ldc2 (v := 1000000000000) hx hb hown (hts _ kl_X10_284) dX10_splits_2 ?_
  refine lv_lstore (lv' := [(4, .long 1000000000000), (2, .long 0), (0, .ref a), (1, .int v)]) hx hb dX10_splits_5 hl (by decide) rfl (fun ls hl => ?_)
  refine lv_iconst (v := 1) hx hb dX10_splits_7 (by decide) ?_
  refine lv_istore (lv' := [(6, .int 1), (4, .long 1000000000000), (2, .long 0), (0, .ref a), (1, .int v)]) hx hb dX10_splits_8 hl (by decide) rfl (fun ls hl => ?_)
  refine W.loop (σ := Int64 × Int64 × Int32 × Gh) (fun w1 H locs ls => 1 ≤ w1.2.2.1.toInt ∧ w1.2.2.1.toInt ≤ 61 ∧ Fr τ [79] G w1.2.2.2 ∧ TY D cy base τ w1.2.2.2 H ∧ va_S (RA base) s.heap H locs ∧ lv_has ls 11 [(2, .long w1.1), (4, .long w1.2.1), (6, .int w1.2.2.1), (0, .ref a), (1, .int v)]) (fun w1 => (61 - w1.2.2.1.toInt).toNat) ?_ ((0 : Int64), (1000000000000 : Int64), (1 : Int32), G) _ _ _ ⟨(by show 1 ≤ (1 : Int32).toInt; decide), (by show (1 : Int32).toInt ≤ 61; decide), hF, hT, hS, lv_sub hl [2, 1, 0, 3, 4] rfl⟩
  intro w1 H locs ls hI ih1
  obtain ⟨x1_2, x1_4, x1_6, G_1⟩ := w1
  obtain ⟨i1_0, i1_1, hF, hT, hS, hl⟩ := hI
  have i1_0 : 1 ≤ x1_6.toInt := i1_0
  have i1_1 : x1_6.toInt ≤ 61 := i1_1
  have hF : Fr τ [79] G G_1 := hF
  have hT : TY D cy base τ G_1 H := hT
  have hS : va_S (RA base) s.heap H locs := hS
  have hl : lv_has ls 11 [(2, .long x1_2), (4, .long x1_4), (6, .int x1_6), (0, .ref a), (1, .int v)] := hl
  refine lv_iload hx hb dX10_splits_10 (lv_at hl 2 rfl) ?_
  refine lv_aload_n hx hb dX10_splits_12 rfl (lv_at hl 3 rfl) ?_
  obtain ⟨q_2, eq_2, hq_2⟩ := (show ∃ q, G_1.2.2.1 a 17 = some q ∧ τ q = 67 from hT.rgr h_a (by decide) 17)
  have eq_2 := (hF.r h_a (by decide) rfl _).symm.trans eq_2
  obtain ⟨z_3, ez_3⟩ : ∃ y : Int32, y = G_1.1 q_2 0 := ⟨_, rfl⟩
  have qz_3 : (0 % 4 = 0 → 0 ≤ z_3.toInt ∧ z_3.toInt ≤ 60) := by rw [ez_3]; exact hT.rgi hq_2 (by decide) 0
  have rz_3 : 0 ≤ z_3.toInt ∧ z_3.toInt ≤ 60 := by omega
  have ez_3 : z_3 = G.1 q_2 0 := ez_3.trans (hF.i hq_2 (by decide) rfl _)
  refine pu_calli (runV (As := []) (rest := [.int x1_6]) ⟨hx, hb, hml, hown, hts⟩ (t_X10_lastDay l D cy base τ G_1 a h_a q_2 hq_2 ((hF.r h_a (by decide) rfl _).trans eq_2) z_3 (ez_3.trans (hF.i hq_2 (by decide) rfl _).symm) ⟨by omega, by omega⟩) sV_X10_278 hK (t_recv cf_11 hK hT h_a) ⟨Nat.le_trans hZ hS.1, hT⟩ ⟨Nat.le_of_ble_eq_true rfl, Nat.le_of_ble_eq_true rfl⟩ rfl hl.1 rfl (Nat.le_of_ble_eq_true rfl) dX10_splits_13 ⟨Nat.le_of_ble_eq_true rfl, Nat.le_of_ble_eq_true rfl⟩) (fun r_4 hr_4 => ?_)
  have er_4 := hr_4
  have er_4 := er_4.symm
  subst er_4
  refine W.eq (g2 := F0 m 16 ls [.int z_3, .int x1_6]) rfl ?_
  refine lv_icmp_gt (tgt := 98) hx hb dX10_splits_16 (by decide) (fun c_5 => ?_) (fun c_5 => ?_)
  · skip
    have tc_5 : z_3.toInt < x1_6.toInt := (fa_lt _ _).mp c_5
    refine lv_aload_n hx hb dX10_splits_98 rfl (lv_at hl 3 rfl) ?_
    refine t_getr cf_11 hx hb hts hown hK hT h_a (k := 29) (P := fun q => τ q = 79) rfl (fun _ h9 => h9) fl_X10_71 (fun _ h9 => h9) dX10_splits_99 (fun q_6 eq_6 hq_6 => ?_)
    have eq_6 := (hF.r h_a (by decide) rfl _).symm.trans eq_6
    refine lv_iconst (v := 0) hx hb dX10_splits_102 (by decide) ?_
    refine lv_lload_n hx hb dX10_splits_103 rfl (lv_at hl 0 rfl) ?_
    refine lv_lload hx hb dX10_splits_104 (lv_at hl 1 rfl) ?_
    refine lv_ladd hx hb dX10_splits_106 ?_
    refine lv_topl (fun z_7 ez_7 => ?_)
    refine t_last (n := 61) (i := 0) (x := z_7) rfl (by decide) hx hb hK hT hS hq_6 (hT.len hq_6 (by decide)) ⟨by decide, by decide⟩ dX10_splits_107 (fun H locs G_8 eG_8 hT hS => ?_)
    have hF := hF.wL eG_8 hq_6 rfl
    exact ret_v hx hb hr hlocks ⟨⟨hS.1, hS.2.1⟩, G_8, hF, ⟨rfl, trivial⟩, hT⟩ hS.2.2 (Nat.le_of_ble_eq_true rfl) (Nat.le_of_ble_eq_true rfl) dX10_splits_108
  · skip
    have tc_5 : ¬ z_3.toInt < x1_6.toInt := fun h => c_5 ((fa_lt _ _).mpr h)
    refine lv_lload_n hx hb dX10_splits_19 rfl (lv_at hl 0 rfl) ?_
    refine lv_aload_n hx hb dX10_splits_20 rfl (lv_at hl 3 rfl) ?_
    refine lv_iload hx hb dX10_splits_21 (lv_at hl 2 rfl) ?_
    refine lv_iconst (v := 1) hx hb dX10_splits_23 (by decide) ?_
    refine pu_calli (runV (As := [.int x1_6, .int 1]) (rest := [.long x1_2]) ⟨hx, hb, hml, hown, hts⟩ (t_X10_chance l D cy base τ G_1 a h_a x1_6 1) sV_X10_286 hK (t_recv cf_11 hK hT h_a) ⟨Nat.le_trans hZ hS.1, hT⟩ ⟨Nat.le_of_ble_eq_true rfl, Nat.le_of_ble_eq_true rfl⟩ rfl hl.1 rfl (Nat.le_of_ble_eq_true rfl) dX10_splits_24 ⟨Nat.le_of_ble_eq_true rfl, Nat.le_of_ble_eq_true rfl⟩) (fun r_9 hr_9 => ?_)
    refine pu_calll (runS (As := [.long x1_2, .int r_9]) (rest := []) ⟨hx, hb, hml, hown, hts⟩ (t_X10_hundredths l D cy base τ G_1 x1_2 r_9) sS_X10_290 hK ⟨Nat.le_trans hZ hS.1, hT⟩ ⟨Nat.le_of_ble_eq_true rfl, Nat.le_of_ble_eq_true rfl⟩ rfl hl.1 rfl (Nat.le_of_ble_eq_true rfl) dX10_splits_27 ⟨Nat.le_of_ble_eq_true rfl, Nat.le_of_ble_eq_true rfl⟩) (fun r_10 hr_10 => ?_)
    refine lv_lstore (lv' := [(7, .long r_10), (2, .long x1_2), (4, .long x1_4), (6, .int x1_6), (0, .ref a), (1, .int v)]) hx hb dX10_splits_30 hl (by decide) rfl (fun ls hl => ?_)
    refine lv_lload hx hb dX10_splits_32 (lv_at hl 2 rfl) ?_
    refine lv_aload_n hx hb dX10_splits_34 rfl (lv_at hl 4 rfl) ?_
    refine lv_iload hx hb dX10_splits_35 (lv_at hl 3 rfl) ?_
    refine lv_iconst (v := 0) hx hb dX10_splits_37 (by decide) ?_
    refine pu_calli (runV (As := [.int x1_6, .int 0]) (rest := [.long x1_4]) ⟨hx, hb, hml, hown, hts⟩ (t_X10_chance l D cy base τ G_1 a h_a x1_6 0) sV_X10_286 hK (t_recv cf_11 hK hT h_a) ⟨Nat.le_trans hZ hS.1, hT⟩ ⟨Nat.le_of_ble_eq_true rfl, Nat.le_of_ble_eq_true rfl⟩ rfl hl.1 rfl (Nat.le_of_ble_eq_true rfl) dX10_splits_38 ⟨Nat.le_of_ble_eq_true rfl, Nat.le_of_ble_eq_true rfl⟩) (fun r_11 hr_11 => ?_)
    refine pu_calll (runS (As := [.long x1_4, .int r_11]) (rest := []) ⟨hx, hb, hml, hown, hts⟩ (t_X10_hundredths l D cy base τ G_1 x1_4 r_11) sS_X10_290 hK ⟨Nat.le_trans hZ hS.1, hT⟩ ⟨Nat.le_of_ble_eq_true rfl, Nat.le_of_ble_eq_true rfl⟩ rfl hl.1 rfl (Nat.le_of_ble_eq_true rfl) dX10_splits_41 ⟨Nat.le_of_ble_eq_true rfl, Nat.le_of_ble_eq_true rfl⟩) (fun r_12 hr_12 => ?_)
    refine lv_lstore (lv' := [(9, .long r_12), (7, .long r_10), (2, .long x1_2), (4, .long x1_4), (6, .int x1_6), (0, .ref a), (1, .int v)]) hx hb dX10_splits_44 hl (by decide) rfl (fun ls hl => ?_)
    refine lv_aload_n hx hb dX10_splits_46 rfl (lv_at hl 5 rfl) ?_
    refine t_getr cf_11 hx hb hts hown hK hT h_a (k := 29) (P := fun q => τ q = 79) rfl (fun _ h9 => h9) fl_X10_71 (fun _ h9 => h9) dX10_splits_47 (fun q_13 eq_13 hq_13 => ?_)
    have eq_13 := (hF.r h_a (by decide) rfl _).symm.trans eq_13
    refine lv_iload hx hb dX10_splits_50 (lv_at hl 4 rfl) ?_
    refine lv_lload hx hb dX10_splits_52 (lv_at hl 1 rfl) ?_
    refine lv_lload hx hb dX10_splits_54 (lv_at hl 0 rfl) ?_
    refine lv_ladd hx hb dX10_splits_56 ?_
    refine lv_topl (fun z_14 ez_14 => ?_)
    refine lv_aload_n hx hb dX10_splits_57 rfl (lv_at hl 5 rfl) ?_
    refine lv_iload_n hx hb dX10_splits_58 rfl (lv_at hl 6 rfl) ?_
    refine pu_calli (runV (As := [.int v]) (rest := [.long z_14, .int x1_6, .ref q_13]) ⟨hx, hb, hml, hown, hts⟩ (t_X10_shutOf l D cy base τ G_1 a h_a v ⟨by omega, by omega⟩) sV_X10_293 hK (t_recv cf_11 hK hT h_a) ⟨Nat.le_trans hZ hS.1, hT⟩ ⟨Nat.le_of_ble_eq_true rfl, Nat.le_of_ble_eq_true rfl⟩ rfl hl.1 rfl (Nat.le_of_ble_eq_true rfl) dX10_splits_59 ⟨Nat.le_of_ble_eq_true rfl, Nat.le_of_ble_eq_true rfl⟩) (fun r_15 hr_15 => ?_)
    refine pu_calll (runS (As := [.long z_14, .int r_15]) (rest := [.int x1_6, .ref q_13]) ⟨hx, hb, hml, hown, hts⟩ (t_X10_hundredths l D cy base τ G_1 z_14 r_15) sS_X10_290 hK ⟨Nat.le_trans hZ hS.1, hT⟩ ⟨Nat.le_of_ble_eq_true rfl, Nat.le_of_ble_eq_true rfl⟩ rfl hl.1 rfl (Nat.le_of_ble_eq_true rfl) dX10_splits_62 ⟨Nat.le_of_ble_eq_true rfl, Nat.le_of_ble_eq_true rfl⟩) (fun r_16 hr_16 => ?_)
    refine t_last (n := 61) (i := x1_6) (x := r_16) rfl (by decide) hx hb hK hT hS hq_13 (hT.len hq_13 (by decide)) ⟨by omega, by omega⟩ dX10_splits_65 (fun H locs G_17 eG_17 hT hS => ?_)
    have hF := hF.wL eG_17 hq_13 rfl
    refine lv_lload_n hx hb dX10_splits_66 rfl (lv_at hl 2 rfl) ?_
    refine lv_lload hx hb dX10_splits_67 (lv_at hl 1 rfl) ?_
    refine lv_lsub hx hb dX10_splits_69 ?_
    refine lv_topl (fun z_18 ez_18 => ?_)
    refine lv_lload hx hb dX10_splits_70 (lv_at hl 3 rfl) ?_
    refine lv_ladd hx hb dX10_splits_72 ?_
    refine lv_topl (fun z_19 ez_19 => ?_)
    refine lv_lload hx hb dX10_splits_73 (lv_at hl 0 rfl) ?_
    refine lv_lsub hx hb dX10_splits_75 ?_
    refine lv_topl (fun z_20 ez_20 => ?_)
    refine lv_lstore (lv' := [(4, .long z_20), (9, .long r_12), (7, .long r_10), (2, .long x1_2), (6, .int x1_6), (0, .ref a), (1, .int v)]) hx hb dX10_splits_76 hl (by decide) rfl (fun ls hl => ?_)
    refine lv_lload hx hb dX10_splits_78 (lv_at hl 2 rfl) ?_
    refine lv_lload hx hb dX10_splits_80 (lv_at hl 1 rfl) ?_
    refine lv_ladd hx hb dX10_splits_82 ?_
    refine lv_topl (fun z_21 ez_21 => ?_)
    refine lv_aload_n hx hb dX10_splits_83 rfl (lv_at hl 5 rfl) ?_
    refine t_getr cf_11 hx hb hts hown hK hT h_a (k := 29) (P := fun q => τ q = 79) rfl (fun _ h9 => h9) fl_X10_71 (fun _ h9 => h9) dX10_splits_84 (fun q_22 eq_22 hq_22 => ?_)
    have w_23 : q_13 = q_22 := Option.some.inj (eq_13.symm.trans ((hF.r h_a (by decide) rfl _).symm.trans eq_22))
    subst w_23
    refine lv_iload hx hb dX10_splits_87 (lv_at hl 4 rfl) ?_
    refine t_lald (n := 61) (i := x1_6) rfl (by decide) hx hb hK hT hq_13 (hT.len hq_13 (by decide)) ⟨by omega, by omega⟩ dX10_splits_89 (fun z_24 ez_24 => ?_)
    refine lv_lsub hx hb dX10_splits_90 ?_
    refine lv_topl (fun z_25 ez_25 => ?_)
    refine lv_lstore_n (lv' := [(2, .long z_25), (4, .long z_20), (9, .long r_12), (7, .long r_10), (6, .int x1_6), (0, .ref a), (1, .int v)]) hx hb dX10_splits_91 rfl hl (by decide) rfl (fun ls hl => ?_)
    obtain ⟨z_26, ez_26⟩ : ∃ y : Int32, y = x1_6 + 1 := ⟨_, rfl⟩
    have tz_26 : z_26.toInt = x1_6.toInt + 1 := add_t ez_26 (show -2147483648 ≤ x1_6.toInt + 1 by omega) (show x1_6.toInt + 1 < 2147483648 by omega)
    refine lv_iinc (v := z_26) (lv' := [(6, .int z_26), (2, .long z_25), (4, .long z_20), (9, .long r_12), (7, .long r_10), (0, .ref a), (1, .int v)]) hx hb dX10_splits_92 hl (k := 4) rfl (by rw [ez_26]; rfl) (by decide) rfl (fun ls hl => ?_)
    refine lv_goto (tgt := 10) hx hb dX10_splits_95 (by decide) ?_
    exact ih1 (z_25, z_20, z_26, G_17) _ _ _ (by show (61 - z_26.toInt).toNat < (61 - x1_6.toInt).toNat; omega) ⟨(by show 1 ≤ z_26.toInt; omega), (by show z_26.toInt ≤ 61; omega), hF, hT, hS, lv_sub hl [1, 2, 0, 5, 6] rfl⟩
set_option maxHeartbeats 4000000 in
set_option maxRecDepth 100000 in
theorem t_X10_byDay (l : Launch) (D : va_G) (cy : Nat → ClassId) (base : Nat) (τ : Nat → Nat) (G : Gh) (a : Nat) (h_a : τ a = 11) (v : Int32) (r_v : 0 ≤ v.toInt ∧ v.toInt ≤ 60) : MM l yX10_byDay cX10_byDay 5 (some .long) 0 0 0 D cy [.ref a, .int v] (PT D cy base τ G) (PuL (fun r => True)) noF := by
  refine MM.of (by decide) (Nat.le_of_ble_eq_true rfl) ?_
  intro p e s m below meth c C hPT ls hl
  obtain ⟨hx, hb, hr, hml, hown, hts, hlocks, hK, hnm⟩ := C
  obtain ⟨hZ, hT⟩ := hPT
  have hS : va_S (RA base) s.heap s.heap [] := va_S.rf
  have hl : lv_has ls 5 [(0, .ref a), (1, .int v)] := hl
  refine lv_lconst (v := 0) hx hb dX10_byDay_0 (by decide) ?_
  refine lv_lstore_n (lv' := [(2, .long 0), (0, .ref a), (1, .int v)]) hx hb dX10_byDay_1 rfl hl (by decide) rfl (fun ls hl => ?_)
  refine lv_iconst (v := 1) hx hb dX10_byDay_2 (by decide) ?_
  refine lv_istore (lv' := [(4, .int 1), (2, .long 0), (0, .ref a), (1, .int v)]) hx hb dX10_byDay_3 hl (by decide) rfl (fun ls hl => ?_)
  refine W.loop (σ := Int64 × Int32) (fun w1 H locs ls => 1 ≤ w1.2.toInt ∧ w1.2.toInt ≤ 61 ∧ H = s.heap ∧ locs = [] ∧ lv_has ls 5 [(2, .long w1.1), (4, .int w1.2), (0, .ref a), (1, .int v)]) (fun w1 => (61 - w1.2.toInt).toNat) ?_ ((0 : Int64), (1 : Int32)) _ _ _ ⟨(by show 1 ≤ (1 : Int32).toInt; decide), (by show (1 : Int32).toInt ≤ 61; decide), rfl, rfl, lv_sub hl [1, 0, 2, 3] rfl⟩
  intro w1 H locs ls hI ih1
  obtain ⟨x1_2, x1_4⟩ := w1
  obtain ⟨i1_0, i1_1, rfl, rfl, hl⟩ := hI
  have i1_0 : 1 ≤ x1_4.toInt := i1_0
  have i1_1 : x1_4.toInt ≤ 61 := i1_1
  have hl : lv_has ls 5 [(2, .long x1_2), (4, .int x1_4), (0, .ref a), (1, .int v)] := hl
  refine lv_iload hx hb dX10_byDay_5 (lv_at hl 1 rfl) ?_
  refine lv_iload_n hx hb dX10_byDay_7 rfl (lv_at hl 3 rfl) ?_
  refine lv_icmp_gt (tgt := 27) hx hb dX10_byDay_8 (by decide) (fun c_2 => ?_) (fun c_2 => ?_)
  · skip
    have tc_2 : v.toInt < x1_4.toInt := (fa_lt _ _).mp c_2
    refine lv_lload_n hx hb dX10_byDay_27 rfl (lv_at hl 0 rfl) ?_
    exact ret_l hx hb hr hlocks ⟨rfl, _, rfl, trivial⟩ (fun _ h => absurd h List.not_mem_nil) (Nat.le_refl _) (Nat.le_refl _) dX10_byDay_28
  · skip
    have tc_2 : ¬ v.toInt < x1_4.toInt := fun h => c_2 ((fa_lt _ _).mpr h)
    refine lv_lload_n hx hb dX10_byDay_11 rfl (lv_at hl 0 rfl) ?_
    refine lv_aload_n hx hb dX10_byDay_12 rfl (lv_at hl 2 rfl) ?_
    refine t_getr cf_11 hx hb hts hown hK hT h_a (k := 29) (P := fun q => τ q = 79) rfl (fun _ h9 => h9) fl_X10_71 (fun _ h9 => h9) dX10_byDay_13 (fun q_3 eq_3 hq_3 => ?_)
    refine lv_iload hx hb dX10_byDay_16 (lv_at hl 1 rfl) ?_
    refine t_lald (n := 61) (i := x1_4) rfl (by decide) hx hb hK hT hq_3 (hT.len hq_3 (by decide)) ⟨by omega, by omega⟩ dX10_byDay_18 (fun z_4 ez_4 => ?_)
    refine lv_ladd hx hb dX10_byDay_19 ?_
    refine lv_topl (fun z_5 ez_5 => ?_)
    refine lv_lstore_n (lv' := [(2, .long z_5), (4, .int x1_4), (0, .ref a), (1, .int v)]) hx hb dX10_byDay_20 rfl hl (by decide) rfl (fun ls hl => ?_)
    obtain ⟨z_6, ez_6⟩ : ∃ y : Int32, y = x1_4 + 1 := ⟨_, rfl⟩
    have tz_6 : z_6.toInt = x1_4.toInt + 1 := add_t ez_6 (show -2147483648 ≤ x1_4.toInt + 1 by omega) (show x1_4.toInt + 1 < 2147483648 by omega)
    refine lv_iinc (v := z_6) (lv' := [(4, .int z_6), (2, .long z_5), (0, .ref a), (1, .int v)]) hx hb dX10_byDay_21 hl (k := 1) rfl (by rw [ez_6]; rfl) (by decide) rfl (fun ls hl => ?_)
    refine lv_goto (tgt := 5) hx hb dX10_byDay_24 (by decide) ?_
    exact ih1 (z_5, z_6) _ _ _ (by show (61 - z_6.toInt).toNat < (61 - x1_4.toInt).toNat; omega) ⟨(by show 1 ≤ z_6.toInt; omega), (by show z_6.toInt ≤ 61; omega), rfl, rfl, lv_sub hl [1, 0, 2, 3] rfl⟩
set_option maxHeartbeats 4000000 in
set_option maxRecDepth 100000 in
theorem t_X10_two (l : Launch) (D : va_G) (cy : Nat → ClassId) (base : Nat) (τ : Nat → Nat) (G : Gh) (a : Nat) (h_a : τ a = 11) (v : Int32) (r_v : 0 ≤ v.toInt ∧ v.toInt ≤ 60) (w : Int32) (r_w : 0 ≤ w.toInt ∧ w.toInt ≤ 60) : MM l yX10_two cX10_two 3 (some .long) 1 0 0 D cy [.ref a, .int v, .int w] (PT D cy base τ G) (PuL (fun r => True)) noF := by
  refine MM.of (by decide) (Nat.le_of_ble_eq_true rfl) ?_
  intro p e s m below meth c C hPT ls hl
  obtain ⟨hx, hb, hr, hml, hown, hts, hlocks, hK, hnm⟩ := C
  obtain ⟨hZ, hT⟩ := hPT
  have hS : va_S (RA base) s.heap s.heap [] := va_S.rf
  have hl : lv_has ls 3 [(0, .ref a), (1, .int v), (2, .int w)] := hl
  refine lv_aload_n hx hb dX10_two_0 rfl (lv_at hl 0 rfl) ?_
  refine t_getr cf_11 hx hb hts hown hK hT h_a (k := 30) (P := fun q => τ q = 80) rfl (fun _ h9 => h9) fl_X10_74 (fun _ h9 => h9) dX10_two_1 (fun q_1 eq_1 hq_1 => ?_)
  refine lv_iload_n hx hb dX10_two_4 rfl (lv_at hl 1 rfl) ?_
  refine lv_iload_n hx hb dX10_two_5 rfl (lv_at hl 2 rfl) ?_
  refine pu_calli (runS (As := [.int v, .int w]) (rest := [.ref q_1]) ⟨hx, hb, hml, hown, hts⟩ (t_X10_at2 l D cy base τ G v ⟨by omega, by omega⟩ w ⟨by omega, by omega⟩) sS_X10_312 hK ⟨Nat.le_trans hZ hS.1, hT⟩ ⟨Nat.le_of_ble_eq_true rfl, Nat.le_of_ble_eq_true rfl⟩ rfl hl.1 rfl (Nat.le_of_ble_eq_true rfl) dX10_two_6 ⟨Nat.le_of_ble_eq_true rfl, Nat.le_of_ble_eq_true rfl⟩) (fun r_2 hr_2 => ?_)
  obtain ⟨hr_2_lo, hr_2_hi⟩ := hr_2
  have hr_2_lo : 0 ≤ r_2.toInt := hr_2_lo
  have hr_2_hi : r_2.toInt ≤ 3720 := hr_2_hi
  refine t_lald (n := 3721) (i := r_2) rfl (by decide) hx hb hK hT hq_1 (hT.len hq_1 (by decide)) ⟨by omega, by omega⟩ dX10_two_9 (fun z_3 ez_3 => ?_)
  refine lv_aload_n hx hb dX10_two_10 rfl (lv_at hl 0 rfl) ?_
  refine t_getr cf_11 hx hb hts hown hK hT h_a (k := 31) (P := fun q => τ q = 81) rfl (fun _ h9 => h9) fl_X10_77 (fun _ h9 => h9) dX10_two_11 (fun q_4 eq_4 hq_4 => ?_)
  refine lv_iload_n hx hb dX10_two_14 rfl (lv_at hl 1 rfl) ?_
  refine lv_iload_n hx hb dX10_two_15 rfl (lv_at hl 2 rfl) ?_
  refine pu_calli (runS (As := [.int v, .int w]) (rest := [.ref q_4, .long z_3]) ⟨hx, hb, hml, hown, hts⟩ (t_X10_at2 l D cy base τ G v ⟨by omega, by omega⟩ w ⟨by omega, by omega⟩) sS_X10_312 hK ⟨Nat.le_trans hZ hS.1, hT⟩ ⟨Nat.le_of_ble_eq_true rfl, Nat.le_of_ble_eq_true rfl⟩ rfl hl.1 rfl (Nat.le_of_ble_eq_true rfl) dX10_two_16 ⟨Nat.le_of_ble_eq_true rfl, Nat.le_of_ble_eq_true rfl⟩) (fun r_5 hr_5 => ?_)
  obtain ⟨hr_5_lo, hr_5_hi⟩ := hr_5
  have hr_5_lo : 0 ≤ r_5.toInt := hr_5_lo
  have hr_5_hi : r_5.toInt ≤ 3720 := hr_5_hi
  refine t_lald (n := 3721) (i := r_5) rfl (by decide) hx hb hK hT hq_4 (hT.len hq_4 (by decide)) ⟨by omega, by omega⟩ dX10_two_19 (fun z_6 ez_6 => ?_)
  refine lv_ladd hx hb dX10_two_20 ?_
  refine lv_topl (fun z_7 ez_7 => ?_)
  exact ret_l hx hb hr hlocks ⟨rfl, _, rfl, trivial⟩ (fun _ h => absurd h List.not_mem_nil) (Nat.le_refl _) (Nat.le_refl _) dX10_two_21
set_option maxHeartbeats 4000000 in
set_option maxRecDepth 100000 in
theorem t_X10_fallsOther (l : Launch) (D : va_G) (cy : Nat → ClassId) (base : Nat) (τ : Nat → Nat) (G : Gh) (a : Nat) (h_a : τ a = 11) (v : Int32) (r_v : 0 ≤ v.toInt ∧ v.toInt ≤ 5) (i : Int32) (r_i : 0 ≤ i.toInt ∧ i.toInt ≤ 60) (j : Int32) (r_j : 0 ≤ j.toInt ∧ j.toInt ≤ 60) (d : Int32) (r_d : 0 ≤ d.toInt ∧ d.toInt ≤ 60) (x : Int64) : MM l yX10_fallsOther cX10_fallsOther 9 none 1 0 0 D cy [.ref a, .int v, .int i, .int j, .int d, .long x] (PT D cy base τ G) (QT D cy base τ G [80] (fun v g => v = none ∧ (True))) (RA base) := by
  refine MM.of (by decide) (Nat.le_of_ble_eq_true rfl) ?_
  intro p e s m below meth c C hPT ls hl
  obtain ⟨hx, hb, hr, hml, hown, hts, hlocks, hK, hnm⟩ := C
  obtain ⟨hZ, hT⟩ := hPT
  have hS : va_S (RA base) s.heap s.heap [] := va_S.rf
  have hF : Fr τ [80] G G := Fr.rf
  have hl : lv_has ls 9 [(0, .ref a), (1, .int v), (2, .int i), (3, .int j), (4, .int d), (5, .long x)] := hl
  refine lv_iload_n hx hb dX10_fallsOther_0 rfl (lv_at hl 3 rfl) ?_
  refine lv_if_ne (tgt := 17) hx hb dX10_fallsOther_1 (by decide) (fun c_1 => ?_) (fun c_1 => ?_)
  · skip
    have tc_1 : ¬ j.toInt = 0 := fun h => c_1 ((fa_eq _ _).mpr h)
    refine lv_lconst (v := 0) hx hb dX10_fallsOther_17 (by decide) ?_
    refine lv_lstore (lv' := [(7, .long 0), (0, .ref a), (1, .int v), (2, .int i), (3, .int j), (4, .int d), (5, .long x)]) hx hb dX10_fallsOther_18 hl (by decide) rfl (fun ls hl => ?_)
    refine lv_aload_n hx hb dX10_fallsOther_20 rfl (lv_at hl 1 rfl) ?_
    refine t_getr cf_11 hx hb hts hown hK hT h_a (k := 30) (P := fun q => τ q = 80) rfl (fun _ h9 => h9) fl_X10_74 (fun _ h9 => h9) dX10_fallsOther_21 (fun q_2 eq_2 hq_2 => ?_)
    refine lv_iload_n hx hb dX10_fallsOther_24 rfl (lv_at hl 3 rfl) ?_
    refine lv_iload hx hb dX10_fallsOther_25 (lv_at hl 5 rfl) ?_
    refine pu_calli (runS (As := [.int i, .int d]) (rest := [.ref q_2]) ⟨hx, hb, hml, hown, hts⟩ (t_X10_at2 l D cy base τ G i ⟨by omega, by omega⟩ d ⟨by omega, by omega⟩) sS_X10_312 hK ⟨Nat.le_trans hZ hS.1, hT⟩ ⟨Nat.le_of_ble_eq_true rfl, Nat.le_of_ble_eq_true rfl⟩ rfl hl.1 rfl (Nat.le_of_ble_eq_true rfl) dX10_fallsOther_27 ⟨Nat.le_of_ble_eq_true rfl, Nat.le_of_ble_eq_true rfl⟩) (fun r_3 hr_3 => ?_)
    obtain ⟨hr_3_lo, hr_3_hi⟩ := hr_3
    have hr_3_lo : 0 ≤ r_3.toInt := hr_3_lo
    have hr_3_hi : r_3.toInt ≤ 3720 := hr_3_hi
    refine lv_dup2_11 hx hb dX10_fallsOther_30 rfl rfl ?_
    refine t_lald (n := 3721) (i := r_3) rfl (by decide) hx hb hK hT hq_2 (hT.len hq_2 (by decide)) ⟨by omega, by omega⟩ dX10_fallsOther_31 (fun z_4 ez_4 => ?_)
    refine lv_lload hx hb dX10_fallsOther_32 (lv_at hl 0 rfl) ?_
    refine lv_ladd hx hb dX10_fallsOther_34 ?_
    refine lv_topl (fun z_5 ez_5 => ?_)
    refine t_last (n := 3721) (i := r_3) (x := z_5) rfl (by decide) hx hb hK hT hS hq_2 (hT.len hq_2 (by decide)) ⟨by omega, by omega⟩ dX10_fallsOther_35 (fun H locs G_6 eG_6 hT hS => ?_)
    have hF := hF.wL eG_6 hq_2 rfl
    refine lv_aload_n hx hb dX10_fallsOther_36 rfl (lv_at hl 1 rfl) ?_
    refine t_getr cf_11 hx hb hts hown hK hT h_a (k := 30) (P := fun q => τ q = 80) rfl (fun _ h9 => h9) fl_X10_74 (fun _ h9 => h9) dX10_fallsOther_37 (fun q_7 eq_7 hq_7 => ?_)
    have w_8 : q_2 = q_7 := Option.some.inj (eq_2.symm.trans ((hF.r h_a (by decide) rfl _).symm.trans eq_7))
    subst w_8
    refine lv_iload_n hx hb dX10_fallsOther_40 rfl (lv_at hl 3 rfl) ?_
    refine lv_iload_n hx hb dX10_fallsOther_41 rfl (lv_at hl 4 rfl) ?_
    refine pu_calli (runS (As := [.int i, .int j]) (rest := [.ref q_2]) ⟨hx, hb, hml, hown, hts⟩ (t_X10_at2 l D cy base τ G_6 i ⟨by omega, by omega⟩ j ⟨by omega, by omega⟩) sS_X10_312 hK ⟨Nat.le_trans hZ hS.1, hT⟩ ⟨Nat.le_of_ble_eq_true rfl, Nat.le_of_ble_eq_true rfl⟩ rfl hl.1 rfl (Nat.le_of_ble_eq_true rfl) dX10_fallsOther_42 ⟨Nat.le_of_ble_eq_true rfl, Nat.le_of_ble_eq_true rfl⟩) (fun r_9 hr_9 => ?_)
    obtain ⟨hr_9_lo, hr_9_hi⟩ := hr_9
    have hr_9_lo : 0 ≤ r_9.toInt := hr_9_lo
    have hr_9_hi : r_9.toInt ≤ 3720 := hr_9_hi
    refine lv_dup2_11 hx hb dX10_fallsOther_45 rfl rfl ?_
    refine t_lald (n := 3721) (i := r_9) rfl (by decide) hx hb hK hT hq_2 (hT.len hq_2 (by decide)) ⟨by omega, by omega⟩ dX10_fallsOther_46 (fun z_10 ez_10 => ?_)
    refine lv_lload hx hb dX10_fallsOther_47 (lv_at hl 6 rfl) ?_
    refine lv_lload hx hb dX10_fallsOther_49 (lv_at hl 0 rfl) ?_
    refine lv_lsub hx hb dX10_fallsOther_51 ?_
    refine lv_topl (fun z_11 ez_11 => ?_)
    refine lv_ladd hx hb dX10_fallsOther_52 ?_
    refine lv_topl (fun z_12 ez_12 => ?_)
    refine t_last (n := 3721) (i := r_9) (x := z_12) rfl (by decide) hx hb hK hT hS hq_2 (hT.len hq_2 (by decide)) ⟨by omega, by omega⟩ dX10_fallsOther_53 (fun H locs G_13 eG_13 hT hS => ?_)
    have hF := hF.wL eG_13 hq_2 rfl
    exact ret_v hx hb hr hlocks ⟨⟨hS.1, hS.2.1⟩, G_13, hF, ⟨rfl, trivial⟩, hT⟩ hS.2.2 (Nat.le_of_ble_eq_true rfl) (Nat.le_of_ble_eq_true rfl) dX10_fallsOther_54
  · skip
    have tc_1 : j.toInt = 0 := (fa_eq _ _).mp c_1
    refine lv_lload hx hb dX10_fallsOther_4 (lv_at hl 5 rfl) ?_
    refine lv_aload_n hx hb dX10_fallsOther_6 rfl (lv_at hl 0 rfl) ?_
    refine lv_iload_n hx hb dX10_fallsOther_7 rfl (lv_at hl 1 rfl) ?_
    refine pu_calli (runV (As := [.int v]) (rest := [.long x]) ⟨hx, hb, hml, hown, hts⟩ (t_X10_shutOf l D cy base τ G a h_a v ⟨by omega, by omega⟩) sV_X10_293 hK (t_recv cf_11 hK hT h_a) ⟨Nat.le_trans hZ hS.1, hT⟩ ⟨Nat.le_of_ble_eq_true rfl, Nat.le_of_ble_eq_true rfl⟩ rfl hl.1 rfl (Nat.le_of_ble_eq_true rfl) dX10_fallsOther_8 ⟨Nat.le_of_ble_eq_true rfl, Nat.le_of_ble_eq_true rfl⟩) (fun r_14 hr_14 => ?_)
    refine pu_calll (runS (As := [.long x, .int r_14]) (rest := []) ⟨hx, hb, hml, hown, hts⟩ (t_X10_hundredths l D cy base τ G x r_14) sS_X10_290 hK ⟨Nat.le_trans hZ hS.1, hT⟩ ⟨Nat.le_of_ble_eq_true rfl, Nat.le_of_ble_eq_true rfl⟩ rfl hl.1 rfl (Nat.le_of_ble_eq_true rfl) dX10_fallsOther_11 ⟨Nat.le_of_ble_eq_true rfl, Nat.le_of_ble_eq_true rfl⟩) (fun r_15 hr_15 => ?_)
    refine lv_goto (tgt := 18) hx hb dX10_fallsOther_14 (by decide) ?_
    refine lv_lstore (lv' := [(7, .long r_15), (0, .ref a), (1, .int v), (2, .int i), (3, .int j), (4, .int d), (5, .long x)]) hx hb dX10_fallsOther_18 hl (by decide) rfl (fun ls hl => ?_)
    refine lv_aload_n hx hb dX10_fallsOther_20 rfl (lv_at hl 1 rfl) ?_
    refine t_getr cf_11 hx hb hts hown hK hT h_a (k := 30) (P := fun q => τ q = 80) rfl (fun _ h9 => h9) fl_X10_74 (fun _ h9 => h9) dX10_fallsOther_21 (fun q_16 eq_16 hq_16 => ?_)
    refine lv_iload_n hx hb dX10_fallsOther_24 rfl (lv_at hl 3 rfl) ?_
    refine lv_iload hx hb dX10_fallsOther_25 (lv_at hl 5 rfl) ?_
    refine pu_calli (runS (As := [.int i, .int d]) (rest := [.ref q_16]) ⟨hx, hb, hml, hown, hts⟩ (t_X10_at2 l D cy base τ G i ⟨by omega, by omega⟩ d ⟨by omega, by omega⟩) sS_X10_312 hK ⟨Nat.le_trans hZ hS.1, hT⟩ ⟨Nat.le_of_ble_eq_true rfl, Nat.le_of_ble_eq_true rfl⟩ rfl hl.1 rfl (Nat.le_of_ble_eq_true rfl) dX10_fallsOther_27 ⟨Nat.le_of_ble_eq_true rfl, Nat.le_of_ble_eq_true rfl⟩) (fun r_17 hr_17 => ?_)
    obtain ⟨hr_17_lo, hr_17_hi⟩ := hr_17
    have hr_17_lo : 0 ≤ r_17.toInt := hr_17_lo
    have hr_17_hi : r_17.toInt ≤ 3720 := hr_17_hi
    refine lv_dup2_11 hx hb dX10_fallsOther_30 rfl rfl ?_
    refine t_lald (n := 3721) (i := r_17) rfl (by decide) hx hb hK hT hq_16 (hT.len hq_16 (by decide)) ⟨by omega, by omega⟩ dX10_fallsOther_31 (fun z_18 ez_18 => ?_)
    refine lv_lload hx hb dX10_fallsOther_32 (lv_at hl 0 rfl) ?_
    refine lv_ladd hx hb dX10_fallsOther_34 ?_
    refine lv_topl (fun z_19 ez_19 => ?_)
    refine t_last (n := 3721) (i := r_17) (x := z_19) rfl (by decide) hx hb hK hT hS hq_16 (hT.len hq_16 (by decide)) ⟨by omega, by omega⟩ dX10_fallsOther_35 (fun H locs G_20 eG_20 hT hS => ?_)
    have hF := hF.wL eG_20 hq_16 rfl
    refine lv_aload_n hx hb dX10_fallsOther_36 rfl (lv_at hl 1 rfl) ?_
    refine t_getr cf_11 hx hb hts hown hK hT h_a (k := 30) (P := fun q => τ q = 80) rfl (fun _ h9 => h9) fl_X10_74 (fun _ h9 => h9) dX10_fallsOther_37 (fun q_21 eq_21 hq_21 => ?_)
    have w_22 : q_16 = q_21 := Option.some.inj (eq_16.symm.trans ((hF.r h_a (by decide) rfl _).symm.trans eq_21))
    subst w_22
    refine lv_iload_n hx hb dX10_fallsOther_40 rfl (lv_at hl 3 rfl) ?_
    refine lv_iload_n hx hb dX10_fallsOther_41 rfl (lv_at hl 4 rfl) ?_
    refine pu_calli (runS (As := [.int i, .int j]) (rest := [.ref q_16]) ⟨hx, hb, hml, hown, hts⟩ (t_X10_at2 l D cy base τ G_20 i ⟨by omega, by omega⟩ j ⟨by omega, by omega⟩) sS_X10_312 hK ⟨Nat.le_trans hZ hS.1, hT⟩ ⟨Nat.le_of_ble_eq_true rfl, Nat.le_of_ble_eq_true rfl⟩ rfl hl.1 rfl (Nat.le_of_ble_eq_true rfl) dX10_fallsOther_42 ⟨Nat.le_of_ble_eq_true rfl, Nat.le_of_ble_eq_true rfl⟩) (fun r_23 hr_23 => ?_)
    obtain ⟨hr_23_lo, hr_23_hi⟩ := hr_23
    have hr_23_lo : 0 ≤ r_23.toInt := hr_23_lo
    have hr_23_hi : r_23.toInt ≤ 3720 := hr_23_hi
    refine lv_dup2_11 hx hb dX10_fallsOther_45 rfl rfl ?_
    refine t_lald (n := 3721) (i := r_23) rfl (by decide) hx hb hK hT hq_16 (hT.len hq_16 (by decide)) ⟨by omega, by omega⟩ dX10_fallsOther_46 (fun z_24 ez_24 => ?_)
    refine lv_lload hx hb dX10_fallsOther_47 (lv_at hl 6 rfl) ?_
    refine lv_lload hx hb dX10_fallsOther_49 (lv_at hl 0 rfl) ?_
    refine lv_lsub hx hb dX10_fallsOther_51 ?_
    refine lv_topl (fun z_25 ez_25 => ?_)
    refine lv_ladd hx hb dX10_fallsOther_52 ?_
    refine lv_topl (fun z_26 ez_26 => ?_)
    refine t_last (n := 3721) (i := r_23) (x := z_26) rfl (by decide) hx hb hK hT hS hq_16 (hT.len hq_16 (by decide)) ⟨by omega, by omega⟩ dX10_fallsOther_53 (fun H locs G_27 eG_27 hT hS => ?_)
    have hF := hF.wL eG_27 hq_16 rfl
    exact ret_v hx hb hr hlocks ⟨⟨hS.1, hS.2.1⟩, G_27, hF, ⟨rfl, trivial⟩, hT⟩ hS.2.2 (Nat.le_of_ble_eq_true rfl) (Nat.le_of_ble_eq_true rfl) dX10_fallsOther_54
set_option maxHeartbeats 4000000 in
set_option maxRecDepth 100000 in
theorem t_X10_falls (l : Launch) (D : va_G) (cy : Nat → ClassId) (base : Nat) (τ : Nat → Nat) (G : Gh) (a : Nat) (h_a : τ a = 11) (v : Int32) (r_v : 0 ≤ v.toInt ∧ v.toInt ≤ 5) (w : Int32) (r_w : 0 ≤ w.toInt ∧ w.toInt ≤ 5) (i : Int32) (r_i : 0 ≤ i.toInt ∧ i.toInt ≤ 60) (j : Int32) (r_j : 0 ≤ j.toInt ∧ j.toInt ≤ 60) (d : Int32) (r_d : 0 ≤ d.toInt ∧ d.toInt ≤ 60) : MM l yX10_falls cX10_falls 10 none 2 0 0 D cy [.ref a, .int v, .int w, .int i, .int j, .int d] (PT D cy base τ G) (QT D cy base τ G [80] (fun v g => v = none ∧ (True))) (RA base) := by
  refine MM.of (by decide) (Nat.le_of_ble_eq_true rfl) ?_
  intro p e s m below meth c C hPT ls hl
  obtain ⟨hx, hb, hr, hml, hown, hts, hlocks, hK, hnm⟩ := C
  obtain ⟨hZ, hT⟩ := hPT
  have hS : va_S (RA base) s.heap s.heap [] := va_S.rf
  have hF : Fr τ [80] G G := Fr.rf
  have hl : lv_has ls 10 [(0, .ref a), (1, .int v), (2, .int w), (3, .int i), (4, .int j), (5, .int d)] := hl
  refine lv_aload_n hx hb dX10_falls_0 rfl (lv_at hl 0 rfl) ?_
  refine t_getr cf_11 hx hb hts hown hK hT h_a (k := 32) (P := fun q => τ q = 82) rfl (fun _ h9 => h9) fl_X10_80 (fun _ h9 => h9) dX10_falls_1 (fun q_1 eq_1 hq_1 => ?_)
  refine lv_iload_n hx hb dX10_falls_4 rfl (lv_at hl 3 rfl) ?_
  refine lv_iload hx hb dX10_falls_5 (lv_at hl 4 rfl) ?_
  refine pu_calli (runS (As := [.int i, .int j]) (rest := [.ref q_1]) ⟨hx, hb, hml, hown, hts⟩ (t_X10_at2 l D cy base τ G i ⟨by omega, by omega⟩ j ⟨by omega, by omega⟩) sS_X10_312 hK ⟨Nat.le_trans hZ hS.1, hT⟩ ⟨Nat.le_of_ble_eq_true rfl, Nat.le_of_ble_eq_true rfl⟩ rfl hl.1 rfl (Nat.le_of_ble_eq_true rfl) dX10_falls_7 ⟨Nat.le_of_ble_eq_true rfl, Nat.le_of_ble_eq_true rfl⟩) (fun r_2 hr_2 => ?_)
  obtain ⟨hr_2_lo, hr_2_hi⟩ := hr_2
  have hr_2_lo : 0 ≤ r_2.toInt := hr_2_lo
  have hr_2_hi : r_2.toInt ≤ 3720 := hr_2_hi
  refine t_lald (n := 3721) (i := r_2) rfl (by decide) hx hb hK hT hq_1 (hT.len hq_1 (by decide)) ⟨by omega, by omega⟩ dX10_falls_10 (fun z_3 ez_3 => ?_)
  refine lv_lstore (lv' := [(6, .long z_3), (0, .ref a), (1, .int v), (2, .int w), (3, .int i), (4, .int j), (5, .int d)]) hx hb dX10_falls_11 hl (by decide) rfl (fun ls hl => ?_)
  refine lv_iload_n hx hb dX10_falls_13 rfl (lv_at hl 4 rfl) ?_
  refine lv_if_ne (tgt := 30) hx hb dX10_falls_14 (by decide) (fun c_4 => ?_) (fun c_4 => ?_)
  · skip
    have tc_4 : ¬ i.toInt = 0 := fun h => c_4 ((fa_eq _ _).mpr h)
    refine lv_lconst (v := 0) hx hb dX10_falls_30 (by decide) ?_
    refine lv_lstore (lv' := [(8, .long 0), (6, .long z_3), (0, .ref a), (1, .int v), (2, .int w), (3, .int i), (4, .int j), (5, .int d)]) hx hb dX10_falls_31 hl (by decide) rfl (fun ls hl => ?_)
    refine lv_aload_n hx hb dX10_falls_33 rfl (lv_at hl 2 rfl) ?_
    refine lv_iload_n hx hb dX10_falls_34 rfl (lv_at hl 4 rfl) ?_
    refine lv_iload hx hb dX10_falls_35 (lv_at hl 7 rfl) ?_
    refine lv_iload hx hb dX10_falls_37 (lv_at hl 6 rfl) ?_
    refine lv_iload hx hb dX10_falls_39 (lv_at hl 7 rfl) ?_
    refine lv_lload hx hb dX10_falls_41 (lv_at hl 0 rfl) ?_
    refine t_callv (runV (As := [.int w, .int d, .int j, .int d, .long 0]) (rest := []) ⟨hx, hb, hml, hown, hts⟩ (t_X10_fallsOther l D cy base τ G a h_a w ⟨by omega, by omega⟩ d ⟨by omega, by omega⟩ j ⟨by omega, by omega⟩ d ⟨by omega, by omega⟩ 0) sV_X10_319 hK (t_recv cf_11 hK hT h_a) ⟨Nat.le_trans hZ hS.1, hT⟩ ⟨Nat.le_of_ble_eq_true rfl, Nat.le_of_ble_eq_true rfl⟩ rfl hl.1 rfl (Nat.le_of_ble_eq_true rfl) dX10_falls_43 ⟨Nat.le_of_ble_eq_true rfl, Nat.le_of_ble_eq_true rfl⟩) hS (fun G_5 H locs hF_5 hr_5 hT hS => ?_)
    have hF := hF.tr hF_5 rfl
    refine lv_aload_n hx hb dX10_falls_46 rfl (lv_at hl 2 rfl) ?_
    refine lv_iload_n hx hb dX10_falls_47 rfl (lv_at hl 4 rfl) ?_
    refine lv_iload_n hx hb dX10_falls_48 rfl (lv_at hl 5 rfl) ?_
    refine lv_iload hx hb dX10_falls_49 (lv_at hl 6 rfl) ?_
    refine lv_iload hx hb dX10_falls_51 (lv_at hl 7 rfl) ?_
    refine lv_lload hx hb dX10_falls_53 (lv_at hl 1 rfl) ?_
    refine lv_lload hx hb dX10_falls_55 (lv_at hl 0 rfl) ?_
    refine lv_lsub hx hb dX10_falls_57 ?_
    refine lv_topl (fun z_6 ez_6 => ?_)
    refine t_callv (runV (As := [.int w, .int i, .int j, .int d, .long z_6]) (rest := []) ⟨hx, hb, hml, hown, hts⟩ (t_X10_fallsOther l D cy base τ G_5 a h_a w ⟨by omega, by omega⟩ i ⟨by omega, by omega⟩ j ⟨by omega, by omega⟩ d ⟨by omega, by omega⟩ z_6) sV_X10_319 hK (t_recv cf_11 hK hT h_a) ⟨Nat.le_trans hZ hS.1, hT⟩ ⟨Nat.le_of_ble_eq_true rfl, Nat.le_of_ble_eq_true rfl⟩ rfl hl.1 rfl (Nat.le_of_ble_eq_true rfl) dX10_falls_58 ⟨Nat.le_of_ble_eq_true rfl, Nat.le_of_ble_eq_true rfl⟩) hS (fun G_7 H locs hF_7 hr_7 hT hS => ?_)
    have hF := hF.tr hF_7 rfl
    exact ret_v hx hb hr hlocks ⟨⟨hS.1, hS.2.1⟩, G_7, hF, ⟨rfl, trivial⟩, hT⟩ hS.2.2 (Nat.le_of_ble_eq_true rfl) (Nat.le_of_ble_eq_true rfl) dX10_falls_61
  · skip
    have tc_4 : i.toInt = 0 := (fa_eq _ _).mp c_4
    refine lv_lload hx hb dX10_falls_17 (lv_at hl 0 rfl) ?_
    refine lv_aload_n hx hb dX10_falls_19 rfl (lv_at hl 1 rfl) ?_
    refine lv_iload_n hx hb dX10_falls_20 rfl (lv_at hl 2 rfl) ?_
    refine pu_calli (runV (As := [.int v]) (rest := [.long z_3]) ⟨hx, hb, hml, hown, hts⟩ (t_X10_shutOf l D cy base τ G a h_a v ⟨by omega, by omega⟩) sV_X10_293 hK (t_recv cf_11 hK hT h_a) ⟨Nat.le_trans hZ hS.1, hT⟩ ⟨Nat.le_of_ble_eq_true rfl, Nat.le_of_ble_eq_true rfl⟩ rfl hl.1 rfl (Nat.le_of_ble_eq_true rfl) dX10_falls_21 ⟨Nat.le_of_ble_eq_true rfl, Nat.le_of_ble_eq_true rfl⟩) (fun r_8 hr_8 => ?_)
    refine pu_calll (runS (As := [.long z_3, .int r_8]) (rest := []) ⟨hx, hb, hml, hown, hts⟩ (t_X10_hundredths l D cy base τ G z_3 r_8) sS_X10_290 hK ⟨Nat.le_trans hZ hS.1, hT⟩ ⟨Nat.le_of_ble_eq_true rfl, Nat.le_of_ble_eq_true rfl⟩ rfl hl.1 rfl (Nat.le_of_ble_eq_true rfl) dX10_falls_24 ⟨Nat.le_of_ble_eq_true rfl, Nat.le_of_ble_eq_true rfl⟩) (fun r_9 hr_9 => ?_)
    refine lv_goto (tgt := 31) hx hb dX10_falls_27 (by decide) ?_
    refine lv_lstore (lv' := [(8, .long r_9), (6, .long z_3), (0, .ref a), (1, .int v), (2, .int w), (3, .int i), (4, .int j), (5, .int d)]) hx hb dX10_falls_31 hl (by decide) rfl (fun ls hl => ?_)
    refine lv_aload_n hx hb dX10_falls_33 rfl (lv_at hl 2 rfl) ?_
    refine lv_iload_n hx hb dX10_falls_34 rfl (lv_at hl 4 rfl) ?_
    refine lv_iload hx hb dX10_falls_35 (lv_at hl 7 rfl) ?_
    refine lv_iload hx hb dX10_falls_37 (lv_at hl 6 rfl) ?_
    refine lv_iload hx hb dX10_falls_39 (lv_at hl 7 rfl) ?_
    refine lv_lload hx hb dX10_falls_41 (lv_at hl 0 rfl) ?_
    refine t_callv (runV (As := [.int w, .int d, .int j, .int d, .long r_9]) (rest := []) ⟨hx, hb, hml, hown, hts⟩ (t_X10_fallsOther l D cy base τ G a h_a w ⟨by omega, by omega⟩ d ⟨by omega, by omega⟩ j ⟨by omega, by omega⟩ d ⟨by omega, by omega⟩ r_9) sV_X10_319 hK (t_recv cf_11 hK hT h_a) ⟨Nat.le_trans hZ hS.1, hT⟩ ⟨Nat.le_of_ble_eq_true rfl, Nat.le_of_ble_eq_true rfl⟩ rfl hl.1 rfl (Nat.le_of_ble_eq_true rfl) dX10_falls_43 ⟨Nat.le_of_ble_eq_true rfl, Nat.le_of_ble_eq_true rfl⟩) hS (fun G_10 H locs hF_10 hr_10 hT hS => ?_)
    have hF := hF.tr hF_10 rfl
    refine lv_aload_n hx hb dX10_falls_46 rfl (lv_at hl 2 rfl) ?_
    refine lv_iload_n hx hb dX10_falls_47 rfl (lv_at hl 4 rfl) ?_
    refine lv_iload_n hx hb dX10_falls_48 rfl (lv_at hl 5 rfl) ?_
    refine lv_iload hx hb dX10_falls_49 (lv_at hl 6 rfl) ?_
    refine lv_iload hx hb dX10_falls_51 (lv_at hl 7 rfl) ?_
    refine lv_lload hx hb dX10_falls_53 (lv_at hl 1 rfl) ?_
    refine lv_lload hx hb dX10_falls_55 (lv_at hl 0 rfl) ?_
    refine lv_lsub hx hb dX10_falls_57 ?_
    refine lv_topl (fun z_11 ez_11 => ?_)
    refine t_callv (runV (As := [.int w, .int i, .int j, .int d, .long z_11]) (rest := []) ⟨hx, hb, hml, hown, hts⟩ (t_X10_fallsOther l D cy base τ G_10 a h_a w ⟨by omega, by omega⟩ i ⟨by omega, by omega⟩ j ⟨by omega, by omega⟩ d ⟨by omega, by omega⟩ z_11) sV_X10_319 hK (t_recv cf_11 hK hT h_a) ⟨Nat.le_trans hZ hS.1, hT⟩ ⟨Nat.le_of_ble_eq_true rfl, Nat.le_of_ble_eq_true rfl⟩ rfl hl.1 rfl (Nat.le_of_ble_eq_true rfl) dX10_falls_58 ⟨Nat.le_of_ble_eq_true rfl, Nat.le_of_ble_eq_true rfl⟩) hS (fun G_12 H locs hF_12 hr_12 hT hS => ?_)
    have hF := hF.tr hF_12 rfl
    exact ret_v hx hb hr hlocks ⟨⟨hS.1, hS.2.1⟩, G_12, hF, ⟨rfl, trivial⟩, hT⟩ hS.2.2 (Nat.le_of_ble_eq_true rfl) (Nat.le_of_ble_eq_true rfl) dX10_falls_61
set_option maxHeartbeats 4000000 in
set_option maxRecDepth 100000 in
theorem t_X10_splitsTwo (l : Launch) (D : va_G) (cy : Nat → ClassId) (base : Nat) (τ : Nat → Nat) (G : Gh) (a : Nat) (h_a : τ a = 11) (v : Int32) (r_v : 0 ≤ v.toInt ∧ v.toInt ≤ 5) (w : Int32) (r_w : 0 ≤ w.toInt ∧ w.toInt ≤ 5) : MM l yX10_splitsTwo cX10_splitsTwo 11 none 3 0 0 D cy [.ref a, .int v, .int w] (PT D cy base τ G) (QT D cy base τ G [80, 81, 82] (fun v g => v = none ∧ (True))) (RA base) := by
  refine MM.of (by decide) (Nat.le_of_ble_eq_true rfl) ?_
  intro p e s m below meth c C hPT ls hl
  obtain ⟨hx, hb, hr, hml, hown, hts, hlocks, hK, hnm⟩ := C
  obtain ⟨hZ, hT⟩ := hPT
  have hS : va_S (RA base) s.heap s.heap [] := va_S.rf
  have hF : Fr τ [80, 81, 82] G G := Fr.rf
  have hl : lv_has ls 11 [(0, .ref a), (1, .int v), (2, .int w)] := hl
  refine lv_iconst (v := 0) hx hb dX10_splitsTwo_0 (by decide) ?_
  refine lv_istore_n (lv' := [(3, .int 0), (0, .ref a), (1, .int v), (2, .int w)]) hx hb dX10_splitsTwo_1 rfl hl (by decide) rfl (fun ls hl => ?_)
  refine W.loop (σ := Int32 × Gh) (fun w1 H locs ls => 0 ≤ w1.1.toInt ∧ w1.1.toInt ≤ 3721 ∧ Fr τ [80, 81, 82] G w1.2 ∧ TY D cy base τ w1.2 H ∧ va_S (RA base) s.heap H locs ∧ lv_has ls 11 [(3, .int w1.1), (0, .ref a), (1, .int v), (2, .int w)]) (fun w1 => (3721 - w1.1.toInt).toNat) ?_ ((0 : Int32), G) _ _ _ ⟨(by show 0 ≤ (0 : Int32).toInt; decide), (by show (0 : Int32).toInt ≤ 3721; decide), hF, hT, hS, lv_sub hl [0, 1, 2, 3] rfl⟩
  intro w1 H locs ls hI ih1
  obtain ⟨x1_3, G_1⟩ := w1
  obtain ⟨i1_0, i1_1, hF, hT, hS, hl⟩ := hI
  have i1_0 : 0 ≤ x1_3.toInt := i1_0
  have i1_1 : x1_3.toInt ≤ 3721 := i1_1
  have hF : Fr τ [80, 81, 82] G G_1 := hF
  have hT : TY D cy base τ G_1 H := hT
  have hS : va_S (RA base) s.heap H locs := hS
  have hl : lv_has ls 11 [(3, .int x1_3), (0, .ref a), (1, .int v), (2, .int w)] := hl
  refine lv_iload_n hx hb dX10_splitsTwo_2 rfl (lv_at hl 0 rfl) ?_
  refine lv_sipush (v := 3721) hx hb dX10_splitsTwo_3 (by decide) ?_
  refine lv_icmp_ge (tgt := 29) hx hb dX10_splitsTwo_6 (by decide) (fun c_2 => ?_) (fun c_2 => ?_)
  · skip
    have tc_2 : 3721 ≤ x1_3.toInt := (fa_le _ _).mp c_2
    refine lv_aload_n hx hb dX10_splitsTwo_29 rfl (lv_at hl 1 rfl) ?_
    refine t_getr cf_11 hx hb hts hown hK hT h_a (k := 31) (P := fun q => τ q = 81) rfl (fun _ h9 => h9) fl_X10_77 (fun _ h9 => h9) dX10_splitsTwo_30 (fun q_3 eq_3 hq_3 => ?_)
    have eq_3 := (hF.r h_a (by decide) rfl _).symm.trans eq_3
    refine lv_iconst (v := 0) hx hb dX10_splitsTwo_33 (by decide) ?_
    refine lv_ldc2 (v := 1000000000000) hx hb hown (hts _ kl_X10_284) dX10_splitsTwo_34 ?_
    refine t_last (n := 3721) (i := 0) (x := 1000000000000) rfl (by decide) hx hb hK hT hS hq_3 (hT.len hq_3 (by decide)) ⟨by decide, by decide⟩ dX10_splitsTwo_37 (fun H locs G_4 eG_4 hT hS => ?_)
    have hF := hF.wL eG_4 hq_3 rfl
    refine lv_iconst (v := 1) hx hb dX10_splitsTwo_38 (by decide) ?_
    refine lv_istore_n (lv' := [(3, .int 1), (0, .ref a), (1, .int v), (2, .int w)]) hx hb dX10_splitsTwo_39 rfl hl (by decide) rfl (fun ls hl => ?_)
    refine W.loop (σ := Int32 × Gh) (fun w5 H locs ls => 1 ≤ w5.1.toInt ∧ w5.1.toInt ≤ 61 ∧ Fr τ [80, 81, 82] G w5.2 ∧ TY D cy base τ w5.2 H ∧ va_S (RA base) s.heap H locs ∧ lv_has ls 11 [(3, .int w5.1), (0, .ref a), (1, .int v), (2, .int w)]) (fun w5 => (61 - w5.1.toInt).toNat) ?_ ((1 : Int32), G_4) _ _ _ ⟨(by show 1 ≤ (1 : Int32).toInt; decide), (by show (1 : Int32).toInt ≤ 61; decide), hF, hT, hS, lv_sub hl [0, 1, 2, 3] rfl⟩
    intro w5 H locs ls hI ih5
    obtain ⟨x5_3, G_5⟩ := w5
    obtain ⟨i5_0, i5_1, hF, hT, hS, hl⟩ := hI
    have i5_0 : 1 ≤ x5_3.toInt := i5_0
    have i5_1 : x5_3.toInt ≤ 61 := i5_1
    have hF : Fr τ [80, 81, 82] G G_5 := hF
    have hT : TY D cy base τ G_5 H := hT
    have hS : va_S (RA base) s.heap H locs := hS
    have hl : lv_has ls 11 [(3, .int x5_3), (0, .ref a), (1, .int v), (2, .int w)] := hl
    refine lv_iload_n hx hb dX10_splitsTwo_40 rfl (lv_at hl 0 rfl) ?_
    refine lv_aload_n hx hb dX10_splitsTwo_41 rfl (lv_at hl 1 rfl) ?_
    obtain ⟨q_6, eq_6, hq_6⟩ := (show ∃ q, G_5.2.2.1 a 17 = some q ∧ τ q = 67 from hT.rgr h_a (by decide) 17)
    have eq_6 := (hF.r h_a (by decide) rfl _).symm.trans eq_6
    obtain ⟨z_7, ez_7⟩ : ∃ y : Int32, y = G_5.1 q_6 0 := ⟨_, rfl⟩
    have qz_7 : (0 % 4 = 0 → 0 ≤ z_7.toInt ∧ z_7.toInt ≤ 60) := by rw [ez_7]; exact hT.rgi hq_6 (by decide) 0
    have rz_7 : 0 ≤ z_7.toInt ∧ z_7.toInt ≤ 60 := by omega
    have ez_7 : z_7 = G.1 q_6 0 := ez_7.trans (hF.i hq_6 (by decide) rfl _)
    refine pu_calli (runV (As := []) (rest := [.int x5_3]) ⟨hx, hb, hml, hown, hts⟩ (t_X10_lastDay l D cy base τ G_5 a h_a q_6 hq_6 ((hF.r h_a (by decide) rfl _).trans eq_6) z_7 (ez_7.trans (hF.i hq_6 (by decide) rfl _).symm) ⟨by omega, by omega⟩) sV_X10_278 hK (t_recv cf_11 hK hT h_a) ⟨Nat.le_trans hZ hS.1, hT⟩ ⟨Nat.le_of_ble_eq_true rfl, Nat.le_of_ble_eq_true rfl⟩ rfl hl.1 rfl (Nat.le_of_ble_eq_true rfl) dX10_splitsTwo_42 ⟨Nat.le_of_ble_eq_true rfl, Nat.le_of_ble_eq_true rfl⟩) (fun r_8 hr_8 => ?_)
    have er_8 := hr_8
    have er_8 := er_8.symm
    subst er_8
    refine W.eq (g2 := F0 m 45 ls [.int z_7, .int x5_3]) rfl ?_
    refine lv_icmp_gt (tgt := 218) hx hb dX10_splitsTwo_45 (by decide) (fun c_9 => ?_) (fun c_9 => ?_)
    · skip
      have tc_9 : z_7.toInt < x5_3.toInt := (fa_lt _ _).mp c_9
      exact ret_v hx hb hr hlocks ⟨⟨hS.1, hS.2.1⟩, G_5, hF, ⟨rfl, trivial⟩, hT⟩ hS.2.2 (Nat.le_of_ble_eq_true rfl) (Nat.le_of_ble_eq_true rfl) dX10_splitsTwo_218
    · skip
      have tc_9 : ¬ z_7.toInt < x5_3.toInt := fun h => c_9 ((fa_lt _ _).mpr h)
      refine lv_iconst (v := 0) hx hb dX10_splitsTwo_48 (by decide) ?_
      refine lv_istore (lv' := [(4, .int 0), (3, .int x5_3), (0, .ref a), (1, .int v), (2, .int w)]) hx hb dX10_splitsTwo_49 hl (by decide) rfl (fun ls hl => ?_)
      refine W.loop (σ := Int32 × Gh) (fun w10 H locs ls => 0 ≤ w10.1.toInt ∧ w10.1.toInt ≤ 60 ∧ Fr τ [80, 81, 82] G w10.2 ∧ TY D cy base τ w10.2 H ∧ va_S (RA base) s.heap H locs ∧ lv_has ls 11 [(4, .int w10.1), (3, .int x5_3), (0, .ref a), (1, .int v), (2, .int w)]) (fun w10 => (60 - w10.1.toInt).toNat) ?_ ((0 : Int32), G_5) _ _ _ ⟨(by show 0 ≤ (0 : Int32).toInt; decide), (by show (0 : Int32).toInt ≤ 60; decide), hF, hT, hS, lv_sub hl [0, 1, 2, 3, 4] rfl⟩
      intro w10 H locs ls hI ih10
      obtain ⟨x10_4, G_10⟩ := w10
      obtain ⟨i10_0, i10_1, hF, hT, hS, hl⟩ := hI
      have i10_0 : 0 ≤ x10_4.toInt := i10_0
      have i10_1 : x10_4.toInt ≤ 60 := i10_1
      have hF : Fr τ [80, 81, 82] G G_10 := hF
      have hT : TY D cy base τ G_10 H := hT
      have hS : va_S (RA base) s.heap H locs := hS
      have hl : lv_has ls 11 [(4, .int x10_4), (3, .int x5_3), (0, .ref a), (1, .int v), (2, .int w)] := hl
      refine lv_iload hx hb dX10_splitsTwo_51 (lv_at hl 0 rfl) ?_
      refine lv_iload_n hx hb dX10_splitsTwo_53 rfl (lv_at hl 1 rfl) ?_
      refine lv_icmp_ge (tgt := 171) hx hb dX10_splitsTwo_54 (by decide) (fun c_11 => ?_) (fun c_11 => ?_)
      · skip
        have tc_11 : x5_3.toInt ≤ x10_4.toInt := (fa_le _ _).mp c_11
        refine lv_iconst (v := 0) hx hb dX10_splitsTwo_171 (by decide) ?_
        refine lv_istore (lv' := [(4, .int 0), (3, .int x5_3), (0, .ref a), (1, .int v), (2, .int w)]) hx hb dX10_splitsTwo_172 hl (by decide) rfl (fun ls hl => ?_)
        refine W.loop (σ := Int32 × Gh) (fun w12 H locs ls => 0 ≤ w12.1.toInt ∧ w12.1.toInt ≤ 60 ∧ Fr τ [80, 81, 82] G w12.2 ∧ TY D cy base τ w12.2 H ∧ va_S (RA base) s.heap H locs ∧ lv_has ls 11 [(4, .int w12.1), (3, .int x5_3), (0, .ref a), (1, .int v), (2, .int w)]) (fun w12 => (60 - w12.1.toInt).toNat) ?_ ((0 : Int32), G_10) _ _ _ ⟨(by show 0 ≤ (0 : Int32).toInt; decide), (by show (0 : Int32).toInt ≤ 60; decide), hF, hT, hS, lv_sub hl [0, 1, 2, 3, 4] rfl⟩
        intro w12 H locs ls hI ih12
        obtain ⟨x12_4, G_12⟩ := w12
        obtain ⟨i12_0, i12_1, hF, hT, hS, hl⟩ := hI
        have i12_0 : 0 ≤ x12_4.toInt := i12_0
        have i12_1 : x12_4.toInt ≤ 60 := i12_1
        have hF : Fr τ [80, 81, 82] G G_12 := hF
        have hT : TY D cy base τ G_12 H := hT
        have hS : va_S (RA base) s.heap H locs := hS
        have hl : lv_has ls 11 [(4, .int x12_4), (3, .int x5_3), (0, .ref a), (1, .int v), (2, .int w)] := hl
        refine lv_iload hx hb dX10_splitsTwo_174 (lv_at hl 0 rfl) ?_
        refine lv_iload_n hx hb dX10_splitsTwo_176 rfl (lv_at hl 1 rfl) ?_
        refine lv_icmp_ge (tgt := 212) hx hb dX10_splitsTwo_177 (by decide) (fun c_13 => ?_) (fun c_13 => ?_)
        · skip
          have tc_13 : x5_3.toInt ≤ x12_4.toInt := (fa_le _ _).mp c_13
          obtain ⟨z_14, ez_14⟩ : ∃ y : Int32, y = x5_3 + 1 := ⟨_, rfl⟩
          have tz_14 : z_14.toInt = x5_3.toInt + 1 := add_t ez_14 (show -2147483648 ≤ x5_3.toInt + 1 by omega) (show x5_3.toInt + 1 < 2147483648 by omega)
          refine lv_iinc (v := z_14) (lv' := [(3, .int z_14), (4, .int x12_4), (0, .ref a), (1, .int v), (2, .int w)]) hx hb dX10_splitsTwo_212 hl (k := 1) rfl (by rw [ez_14]; rfl) (by decide) rfl (fun ls hl => ?_)
          refine lv_goto (tgt := 40) hx hb dX10_splitsTwo_215 (by decide) ?_
          exact ih5 (z_14, G_12) _ _ _ (by show (61 - z_14.toInt).toNat < (61 - x5_3.toInt).toNat; omega) ⟨(by show 1 ≤ z_14.toInt; omega), (by show z_14.toInt ≤ 61; omega), hF, hT, hS, lv_sub hl [0, 2, 3, 4] rfl⟩
        · skip
          have tc_13 : ¬ x5_3.toInt ≤ x12_4.toInt := fun h => c_13 ((fa_le _ _).mpr h)
          refine lv_iconst (v := 0) hx hb dX10_splitsTwo_180 (by decide) ?_
          refine lv_istore (lv' := [(5, .int 0), (4, .int x12_4), (3, .int x5_3), (0, .ref a), (1, .int v), (2, .int w)]) hx hb dX10_splitsTwo_181 hl (by decide) rfl (fun ls hl => ?_)
          refine W.loop (σ := Int32 × Gh) (fun w15 H locs ls => 0 ≤ w15.1.toInt ∧ w15.1.toInt ≤ 60 ∧ Fr τ [80, 81, 82] G w15.2 ∧ TY D cy base τ w15.2 H ∧ va_S (RA base) s.heap H locs ∧ lv_has ls 11 [(5, .int w15.1), (4, .int x12_4), (3, .int x5_3), (0, .ref a), (1, .int v), (2, .int w)]) (fun w15 => (60 - w15.1.toInt).toNat) ?_ ((0 : Int32), G_12) _ _ _ ⟨(by show 0 ≤ (0 : Int32).toInt; decide), (by show (0 : Int32).toInt ≤ 60; decide), hF, hT, hS, lv_sub hl [0, 1, 2, 3, 4, 5] rfl⟩
          intro w15 H locs ls hI ih15
          obtain ⟨x15_5, G_15⟩ := w15
          obtain ⟨i15_0, i15_1, hF, hT, hS, hl⟩ := hI
          have i15_0 : 0 ≤ x15_5.toInt := i15_0
          have i15_1 : x15_5.toInt ≤ 60 := i15_1
          have hF : Fr τ [80, 81, 82] G G_15 := hF
          have hT : TY D cy base τ G_15 H := hT
          have hS : va_S (RA base) s.heap H locs := hS
          have hl : lv_has ls 11 [(5, .int x15_5), (4, .int x12_4), (3, .int x5_3), (0, .ref a), (1, .int v), (2, .int w)] := hl
          refine lv_iload hx hb dX10_splitsTwo_183 (lv_at hl 0 rfl) ?_
          refine lv_iload_n hx hb dX10_splitsTwo_185 rfl (lv_at hl 2 rfl) ?_
          refine lv_icmp_ge (tgt := 206) hx hb dX10_splitsTwo_186 (by decide) (fun c_16 => ?_) (fun c_16 => ?_)
          · skip
            have tc_16 : x5_3.toInt ≤ x15_5.toInt := (fa_le _ _).mp c_16
            obtain ⟨z_17, ez_17⟩ : ∃ y : Int32, y = x12_4 + 1 := ⟨_, rfl⟩
            have tz_17 : z_17.toInt = x12_4.toInt + 1 := add_t ez_17 (show -2147483648 ≤ x12_4.toInt + 1 by omega) (show x12_4.toInt + 1 < 2147483648 by omega)
            refine lv_iinc (v := z_17) (lv' := [(4, .int z_17), (5, .int x15_5), (3, .int x5_3), (0, .ref a), (1, .int v), (2, .int w)]) hx hb dX10_splitsTwo_206 hl (k := 1) rfl (by rw [ez_17]; rfl) (by decide) rfl (fun ls hl => ?_)
            refine lv_goto (tgt := 174) hx hb dX10_splitsTwo_209 (by decide) ?_
            exact ih12 (z_17, G_15) _ _ _ (by show (60 - z_17.toInt).toNat < (60 - x12_4.toInt).toNat; omega) ⟨(by show 0 ≤ z_17.toInt; omega), (by show z_17.toInt ≤ 60; omega), hF, hT, hS, lv_sub hl [0, 2, 3, 4, 5] rfl⟩
          · skip
            have tc_16 : ¬ x5_3.toInt ≤ x15_5.toInt := fun h => c_16 ((fa_le _ _).mpr h)
            refine lv_aload_n hx hb dX10_splitsTwo_189 rfl (lv_at hl 3 rfl) ?_
            refine lv_iload_n hx hb dX10_splitsTwo_190 rfl (lv_at hl 4 rfl) ?_
            refine lv_iload_n hx hb dX10_splitsTwo_191 rfl (lv_at hl 5 rfl) ?_
            refine lv_iload hx hb dX10_splitsTwo_192 (lv_at hl 1 rfl) ?_
            refine lv_iload hx hb dX10_splitsTwo_194 (lv_at hl 0 rfl) ?_
            refine lv_iload_n hx hb dX10_splitsTwo_196 rfl (lv_at hl 2 rfl) ?_
            refine t_callv (runV (As := [.int v, .int w, .int x12_4, .int x15_5, .int x5_3]) (rest := []) ⟨hx, hb, hml, hown, hts⟩ (t_X10_falls l D cy base τ G_15 a h_a v ⟨by omega, by omega⟩ w ⟨by omega, by omega⟩ x12_4 ⟨by omega, by omega⟩ x15_5 ⟨by omega, by omega⟩ x5_3 ⟨by omega, by omega⟩) sV_X10_315 hK (t_recv cf_11 hK hT h_a) ⟨Nat.le_trans hZ hS.1, hT⟩ ⟨Nat.le_of_ble_eq_true rfl, Nat.le_of_ble_eq_true rfl⟩ rfl hl.1 rfl (Nat.le_of_ble_eq_true rfl) dX10_splitsTwo_197 ⟨Nat.le_of_ble_eq_true rfl, Nat.le_of_ble_eq_true rfl⟩) hS (fun G_18 H locs hF_18 hr_18 hT hS => ?_)
            have hF := hF.tr hF_18 rfl
            obtain ⟨z_19, ez_19⟩ : ∃ y : Int32, y = x15_5 + 1 := ⟨_, rfl⟩
            have tz_19 : z_19.toInt = x15_5.toInt + 1 := add_t ez_19 (show -2147483648 ≤ x15_5.toInt + 1 by omega) (show x15_5.toInt + 1 < 2147483648 by omega)
            refine lv_iinc (v := z_19) (lv' := [(5, .int z_19), (4, .int x12_4), (3, .int x5_3), (0, .ref a), (1, .int v), (2, .int w)]) hx hb dX10_splitsTwo_200 hl (k := 0) rfl (by rw [ez_19]; rfl) (by decide) rfl (fun ls hl => ?_)
            refine lv_goto (tgt := 183) hx hb dX10_splitsTwo_203 (by decide) ?_
            exact ih15 (z_19, G_18) _ _ _ (by show (60 - z_19.toInt).toNat < (60 - x15_5.toInt).toNat; omega) ⟨(by show 0 ≤ z_19.toInt; omega), (by show z_19.toInt ≤ 60; omega), hF, hT, hS, lv_sub hl [0, 1, 2, 3, 4, 5] rfl⟩
      · skip
        have tc_11 : ¬ x5_3.toInt ≤ x10_4.toInt := fun h => c_11 ((fa_le _ _).mpr h)
        refine lv_iconst (v := 0) hx hb dX10_splitsTwo_57 (by decide) ?_
        refine lv_istore (lv' := [(5, .int 0), (4, .int x10_4), (3, .int x5_3), (0, .ref a), (1, .int v), (2, .int w)]) hx hb dX10_splitsTwo_58 hl (by decide) rfl (fun ls hl => ?_)
        refine W.loop (σ := Int32 × Gh) (fun w20 H locs ls => 0 ≤ w20.1.toInt ∧ w20.1.toInt ≤ 60 ∧ Fr τ [80, 81, 82] G w20.2 ∧ TY D cy base τ w20.2 H ∧ va_S (RA base) s.heap H locs ∧ lv_has ls 11 [(5, .int w20.1), (4, .int x10_4), (3, .int x5_3), (0, .ref a), (1, .int v), (2, .int w)]) (fun w20 => (60 - w20.1.toInt).toNat) ?_ ((0 : Int32), G_10) _ _ _ ⟨(by show 0 ≤ (0 : Int32).toInt; decide), (by show (0 : Int32).toInt ≤ 60; decide), hF, hT, hS, lv_sub hl [0, 1, 2, 3, 4, 5] rfl⟩
        intro w20 H locs ls hI ih20
        obtain ⟨x20_5, G_20⟩ := w20
        obtain ⟨i20_0, i20_1, hF, hT, hS, hl⟩ := hI
        have i20_0 : 0 ≤ x20_5.toInt := i20_0
        have i20_1 : x20_5.toInt ≤ 60 := i20_1
        have hF : Fr τ [80, 81, 82] G G_20 := hF
        have hT : TY D cy base τ G_20 H := hT
        have hS : va_S (RA base) s.heap H locs := hS
        have hl : lv_has ls 11 [(5, .int x20_5), (4, .int x10_4), (3, .int x5_3), (0, .ref a), (1, .int v), (2, .int w)] := hl
        refine lv_iload hx hb dX10_splitsTwo_60 (lv_at hl 0 rfl) ?_
        refine lv_iload_n hx hb dX10_splitsTwo_62 rfl (lv_at hl 2 rfl) ?_
        refine lv_icmp_ge (tgt := 165) hx hb dX10_splitsTwo_63 (by decide) (fun c_21 => ?_) (fun c_21 => ?_)
        · skip
          have tc_21 : x5_3.toInt ≤ x20_5.toInt := (fa_le _ _).mp c_21
          obtain ⟨z_22, ez_22⟩ : ∃ y : Int32, y = x10_4 + 1 := ⟨_, rfl⟩
          have tz_22 : z_22.toInt = x10_4.toInt + 1 := add_t ez_22 (show -2147483648 ≤ x10_4.toInt + 1 by omega) (show x10_4.toInt + 1 < 2147483648 by omega)
          refine lv_iinc (v := z_22) (lv' := [(4, .int z_22), (5, .int x20_5), (3, .int x5_3), (0, .ref a), (1, .int v), (2, .int w)]) hx hb dX10_splitsTwo_165 hl (k := 1) rfl (by rw [ez_22]; rfl) (by decide) rfl (fun ls hl => ?_)
          refine lv_goto (tgt := 51) hx hb dX10_splitsTwo_168 (by decide) ?_
          exact ih10 (z_22, G_20) _ _ _ (by show (60 - z_22.toInt).toNat < (60 - x10_4.toInt).toNat; omega) ⟨(by show 0 ≤ z_22.toInt; omega), (by show z_22.toInt ≤ 60; omega), hF, hT, hS, lv_sub hl [0, 2, 3, 4, 5] rfl⟩
        · skip
          have tc_21 : ¬ x5_3.toInt ≤ x20_5.toInt := fun h => c_21 ((fa_le _ _).mpr h)
          refine lv_iload hx hb dX10_splitsTwo_66 (lv_at hl 1 rfl) ?_
          refine lv_iload hx hb dX10_splitsTwo_68 (lv_at hl 0 rfl) ?_
          refine pu_calli (runS (As := [.int x10_4, .int x20_5]) (rest := []) ⟨hx, hb, hml, hown, hts⟩ (t_X10_at2 l D cy base τ G_20 x10_4 ⟨by omega, by omega⟩ x20_5 ⟨by omega, by omega⟩) sS_X10_312 hK ⟨Nat.le_trans hZ hS.1, hT⟩ ⟨Nat.le_of_ble_eq_true rfl, Nat.le_of_ble_eq_true rfl⟩ rfl hl.1 rfl (Nat.le_of_ble_eq_true rfl) dX10_splitsTwo_70 ⟨Nat.le_of_ble_eq_true rfl, Nat.le_of_ble_eq_true rfl⟩) (fun r_23 hr_23 => ?_)
          obtain ⟨hr_23_lo, hr_23_hi⟩ := hr_23
          have hr_23_lo : 0 ≤ r_23.toInt := hr_23_lo
          have hr_23_hi : r_23.toInt ≤ 3720 := hr_23_hi
          refine lv_istore (lv' := [(6, .int r_23), (5, .int x20_5), (4, .int x10_4), (3, .int x5_3), (0, .ref a), (1, .int v), (2, .int w)]) hx hb dX10_splitsTwo_73 hl (by decide) rfl (fun ls hl => ?_)
          refine lv_aload_n hx hb dX10_splitsTwo_75 rfl (lv_at hl 4 rfl) ?_
          refine t_getr cf_11 hx hb hts hown hK hT h_a (k := 30) (P := fun q => τ q = 80) rfl (fun _ h9 => h9) fl_X10_74 (fun _ h9 => h9) dX10_splitsTwo_76 (fun q_24 eq_24 hq_24 => ?_)
          have eq_24 := (hF.r h_a (by decide) rfl _).symm.trans eq_24
          refine lv_iload hx hb dX10_splitsTwo_79 (lv_at hl 0 rfl) ?_
          refine t_lald (n := 3721) (i := r_23) rfl (by decide) hx hb hK hT hq_24 (hT.len hq_24 (by decide)) ⟨by omega, by omega⟩ dX10_splitsTwo_81 (fun z_25 ez_25 => ?_)
          refine lv_aload_n hx hb dX10_splitsTwo_82 rfl (lv_at hl 4 rfl) ?_
          refine lv_iload_n hx hb dX10_splitsTwo_83 rfl (lv_at hl 3 rfl) ?_
          refine lv_iconst (v := 1) hx hb dX10_splitsTwo_84 (by decide) ?_
          refine pu_calli (runV (As := [.int x5_3, .int 1]) (rest := [.long z_25]) ⟨hx, hb, hml, hown, hts⟩ (t_X10_chance l D cy base τ G_20 a h_a x5_3 1) sV_X10_286 hK (t_recv cf_11 hK hT h_a) ⟨Nat.le_trans hZ hS.1, hT⟩ ⟨Nat.le_of_ble_eq_true rfl, Nat.le_of_ble_eq_true rfl⟩ rfl hl.1 rfl (Nat.le_of_ble_eq_true rfl) dX10_splitsTwo_85 ⟨Nat.le_of_ble_eq_true rfl, Nat.le_of_ble_eq_true rfl⟩) (fun r_26 hr_26 => ?_)
          refine pu_calll (runS (As := [.long z_25, .int r_26]) (rest := []) ⟨hx, hb, hml, hown, hts⟩ (t_X10_hundredths l D cy base τ G_20 z_25 r_26) sS_X10_290 hK ⟨Nat.le_trans hZ hS.1, hT⟩ ⟨Nat.le_of_ble_eq_true rfl, Nat.le_of_ble_eq_true rfl⟩ rfl hl.1 rfl (Nat.le_of_ble_eq_true rfl) dX10_splitsTwo_88 ⟨Nat.le_of_ble_eq_true rfl, Nat.le_of_ble_eq_true rfl⟩) (fun r_27 hr_27 => ?_)
          refine lv_lstore (lv' := [(7, .long r_27), (6, .int r_23), (5, .int x20_5), (4, .int x10_4), (3, .int x5_3), (0, .ref a), (1, .int v), (2, .int w)]) hx hb dX10_splitsTwo_91 hl (by decide) rfl (fun ls hl => ?_)
          refine lv_aload_n hx hb dX10_splitsTwo_93 rfl (lv_at hl 5 rfl) ?_
          refine t_getr cf_11 hx hb hts hown hK hT h_a (k := 31) (P := fun q => τ q = 81) rfl (fun _ h9 => h9) fl_X10_77 (fun _ h9 => h9) dX10_splitsTwo_94 (fun q_28 eq_28 hq_28 => ?_)
          have w_29 : q_3 = q_28 := Option.some.inj (eq_3.symm.trans ((hF.r h_a (by decide) rfl _).symm.trans eq_28))
          subst w_29
          refine lv_iload hx hb dX10_splitsTwo_97 (lv_at hl 1 rfl) ?_
          refine t_lald (n := 3721) (i := r_23) rfl (by decide) hx hb hK hT hq_3 (hT.len hq_3 (by decide)) ⟨by omega, by omega⟩ dX10_splitsTwo_99 (fun z_30 ez_30 => ?_)
          refine lv_aload_n hx hb dX10_splitsTwo_100 rfl (lv_at hl 5 rfl) ?_
          refine lv_iload_n hx hb dX10_splitsTwo_101 rfl (lv_at hl 4 rfl) ?_
          refine lv_iconst (v := 0) hx hb dX10_splitsTwo_102 (by decide) ?_
          refine pu_calli (runV (As := [.int x5_3, .int 0]) (rest := [.long z_30]) ⟨hx, hb, hml, hown, hts⟩ (t_X10_chance l D cy base τ G_20 a h_a x5_3 0) sV_X10_286 hK (t_recv cf_11 hK hT h_a) ⟨Nat.le_trans hZ hS.1, hT⟩ ⟨Nat.le_of_ble_eq_true rfl, Nat.le_of_ble_eq_true rfl⟩ rfl hl.1 rfl (Nat.le_of_ble_eq_true rfl) dX10_splitsTwo_103 ⟨Nat.le_of_ble_eq_true rfl, Nat.le_of_ble_eq_true rfl⟩) (fun r_31 hr_31 => ?_)
          refine pu_calll (runS (As := [.long z_30, .int r_31]) (rest := []) ⟨hx, hb, hml, hown, hts⟩ (t_X10_hundredths l D cy base τ G_20 z_30 r_31) sS_X10_290 hK ⟨Nat.le_trans hZ hS.1, hT⟩ ⟨Nat.le_of_ble_eq_true rfl, Nat.le_of_ble_eq_true rfl⟩ rfl hl.1 rfl (Nat.le_of_ble_eq_true rfl) dX10_splitsTwo_106 ⟨Nat.le_of_ble_eq_true rfl, Nat.le_of_ble_eq_true rfl⟩) (fun r_32 hr_32 => ?_)
          refine lv_lstore (lv' := [(9, .long r_32), (7, .long r_27), (6, .int r_23), (5, .int x20_5), (4, .int x10_4), (3, .int x5_3), (0, .ref a), (1, .int v), (2, .int w)]) hx hb dX10_splitsTwo_109 hl (by decide) rfl (fun ls hl => ?_)
          refine lv_aload_n hx hb dX10_splitsTwo_111 rfl (lv_at hl 6 rfl) ?_
          refine t_getr cf_11 hx hb hts hown hK hT h_a (k := 32) (P := fun q => τ q = 82) rfl (fun _ h9 => h9) fl_X10_80 (fun _ h9 => h9) dX10_splitsTwo_112 (fun q_33 eq_33 hq_33 => ?_)
          have eq_33 := (hF.r h_a (by decide) rfl _).symm.trans eq_33
          refine lv_iload hx hb dX10_splitsTwo_115 (lv_at hl 2 rfl) ?_
          refine lv_lload hx hb dX10_splitsTwo_117 (lv_at hl 1 rfl) ?_
          refine lv_lload hx hb dX10_splitsTwo_119 (lv_at hl 0 rfl) ?_
          refine lv_ladd hx hb dX10_splitsTwo_121 ?_
          refine lv_topl (fun z_34 ez_34 => ?_)
          refine t_last (n := 3721) (i := r_23) (x := z_34) rfl (by decide) hx hb hK hT hS hq_33 (hT.len hq_33 (by decide)) ⟨by omega, by omega⟩ dX10_splitsTwo_122 (fun H locs G_35 eG_35 hT hS => ?_)
          have hF := hF.wL eG_35 hq_33 rfl
          refine lv_aload_n hx hb dX10_splitsTwo_123 rfl (lv_at hl 6 rfl) ?_
          refine t_getr cf_11 hx hb hts hown hK hT h_a (k := 31) (P := fun q => τ q = 81) rfl (fun _ h9 => h9) fl_X10_77 (fun _ h9 => h9) dX10_splitsTwo_124 (fun q_36 eq_36 hq_36 => ?_)
          have w_37 : q_3 = q_36 := Option.some.inj (eq_3.symm.trans ((hF.r h_a (by decide) rfl _).symm.trans eq_36))
          subst w_37
          refine lv_iload hx hb dX10_splitsTwo_127 (lv_at hl 2 rfl) ?_
          refine lv_aload_n hx hb dX10_splitsTwo_129 rfl (lv_at hl 6 rfl) ?_
          refine t_getr cf_11 hx hb hts hown hK hT h_a (k := 30) (P := fun q => τ q = 80) rfl (fun _ h9 => h9) fl_X10_74 (fun _ h9 => h9) dX10_splitsTwo_130 (fun q_38 eq_38 hq_38 => ?_)
          have w_39 : q_24 = q_38 := Option.some.inj (eq_24.symm.trans ((hF.r h_a (by decide) rfl _).symm.trans eq_38))
          subst w_39
          refine lv_iload hx hb dX10_splitsTwo_133 (lv_at hl 2 rfl) ?_
          refine t_lald (n := 3721) (i := r_23) rfl (by decide) hx hb hK hT hq_24 (hT.len hq_24 (by decide)) ⟨by omega, by omega⟩ dX10_splitsTwo_135 (fun z_40 ez_40 => ?_)
          refine lv_lload hx hb dX10_splitsTwo_136 (lv_at hl 1 rfl) ?_
          refine lv_lsub hx hb dX10_splitsTwo_138 ?_
          refine lv_topl (fun z_41 ez_41 => ?_)
          refine lv_aload_n hx hb dX10_splitsTwo_139 rfl (lv_at hl 6 rfl) ?_
          refine t_getr cf_11 hx hb hts hown hK hT h_a (k := 31) (P := fun q => τ q = 81) rfl (fun _ h9 => h9) fl_X10_77 (fun _ h9 => h9) dX10_splitsTwo_140 (fun q_42 eq_42 hq_42 => ?_)
          have w_43 : q_3 = q_42 := Option.some.inj (eq_3.symm.trans ((hF.r h_a (by decide) rfl _).symm.trans eq_42))
          subst w_43
          refine lv_iload hx hb dX10_splitsTwo_143 (lv_at hl 2 rfl) ?_
          refine t_lald (n := 3721) (i := r_23) rfl (by decide) hx hb hK hT hq_3 (hT.len hq_3 (by decide)) ⟨by omega, by omega⟩ dX10_splitsTwo_145 (fun z_44 ez_44 => ?_)
          refine lv_ladd hx hb dX10_splitsTwo_146 ?_
          refine lv_topl (fun z_45 ez_45 => ?_)
          refine lv_lload hx hb dX10_splitsTwo_147 (lv_at hl 0 rfl) ?_
          refine lv_lsub hx hb dX10_splitsTwo_149 ?_
          refine lv_topl (fun z_46 ez_46 => ?_)
          refine t_last (n := 3721) (i := r_23) (x := z_46) rfl (by decide) hx hb hK hT hS hq_3 (hT.len hq_3 (by decide)) ⟨by omega, by omega⟩ dX10_splitsTwo_150 (fun H locs G_47 eG_47 hT hS => ?_)
          have hF := hF.wL eG_47 hq_3 rfl
          refine lv_aload_n hx hb dX10_splitsTwo_151 rfl (lv_at hl 6 rfl) ?_
          refine t_getr cf_11 hx hb hts hown hK hT h_a (k := 30) (P := fun q => τ q = 80) rfl (fun _ h9 => h9) fl_X10_74 (fun _ h9 => h9) dX10_splitsTwo_152 (fun q_48 eq_48 hq_48 => ?_)
          have w_49 : q_24 = q_48 := Option.some.inj (eq_24.symm.trans ((hF.r h_a (by decide) rfl _).symm.trans eq_48))
          subst w_49
          refine lv_iload hx hb dX10_splitsTwo_155 (lv_at hl 2 rfl) ?_
          refine lv_lconst (v := 0) hx hb dX10_splitsTwo_157 (by decide) ?_
          refine t_last (n := 3721) (i := r_23) (x := 0) rfl (by decide) hx hb hK hT hS hq_24 (hT.len hq_24 (by decide)) ⟨by omega, by omega⟩ dX10_splitsTwo_158 (fun H locs G_50 eG_50 hT hS => ?_)
          have hF := hF.wL eG_50 hq_24 rfl
          obtain ⟨z_51, ez_51⟩ : ∃ y : Int32, y = x20_5 + 1 := ⟨_, rfl⟩
          have tz_51 : z_51.toInt = x20_5.toInt + 1 := add_t ez_51 (show -2147483648 ≤ x20_5.toInt + 1 by omega) (show x20_5.toInt + 1 < 2147483648 by omega)
          refine lv_iinc (v := z_51) (lv' := [(5, .int z_51), (9, .long r_32), (7, .long r_27), (6, .int r_23), (4, .int x10_4), (3, .int x5_3), (0, .ref a), (1, .int v), (2, .int w)]) hx hb dX10_splitsTwo_159 hl (k := 3) rfl (by rw [ez_51]; rfl) (by decide) rfl (fun ls hl => ?_)
          refine lv_goto (tgt := 60) hx hb dX10_splitsTwo_162 (by decide) ?_
          exact ih20 (z_51, G_50) _ _ _ (by show (60 - z_51.toInt).toNat < (60 - x20_5.toInt).toNat; omega) ⟨(by show 0 ≤ z_51.toInt; omega), (by show z_51.toInt ≤ 60; omega), hF, hT, hS, lv_sub hl [0, 4, 5, 6, 7, 8] rfl⟩
  · skip
    have tc_2 : ¬ 3721 ≤ x1_3.toInt := fun h => c_2 ((fa_le _ _).mpr h)
    refine lv_aload_n hx hb dX10_splitsTwo_9 rfl (lv_at hl 1 rfl) ?_
    refine t_getr cf_11 hx hb hts hown hK hT h_a (k := 30) (P := fun q => τ q = 80) rfl (fun _ h9 => h9) fl_X10_74 (fun _ h9 => h9) dX10_splitsTwo_10 (fun q_52 eq_52 hq_52 => ?_)
    have eq_52 := (hF.r h_a (by decide) rfl _).symm.trans eq_52
    refine lv_iload_n hx hb dX10_splitsTwo_13 rfl (lv_at hl 0 rfl) ?_
    refine lv_lconst (v := 0) hx hb dX10_splitsTwo_14 (by decide) ?_
    refine t_last (n := 3721) (i := x1_3) (x := 0) rfl (by decide) hx hb hK hT hS hq_52 (hT.len hq_52 (by decide)) ⟨by omega, by omega⟩ dX10_splitsTwo_15 (fun H locs G_53 eG_53 hT hS => ?_)
    have hF := hF.wL eG_53 hq_52 rfl
    refine lv_aload_n hx hb dX10_splitsTwo_16 rfl (lv_at hl 1 rfl) ?_
    refine t_getr cf_11 hx hb hts hown hK hT h_a (k := 31) (P := fun q => τ q = 81) rfl (fun _ h9 => h9) fl_X10_77 (fun _ h9 => h9) dX10_splitsTwo_17 (fun q_54 eq_54 hq_54 => ?_)
    have eq_54 := (hF.r h_a (by decide) rfl _).symm.trans eq_54
    refine lv_iload_n hx hb dX10_splitsTwo_20 rfl (lv_at hl 0 rfl) ?_
    refine lv_lconst (v := 0) hx hb dX10_splitsTwo_21 (by decide) ?_
    refine t_last (n := 3721) (i := x1_3) (x := 0) rfl (by decide) hx hb hK hT hS hq_54 (hT.len hq_54 (by decide)) ⟨by omega, by omega⟩ dX10_splitsTwo_22 (fun H locs G_55 eG_55 hT hS => ?_)
    have hF := hF.wL eG_55 hq_54 rfl
    obtain ⟨z_56, ez_56⟩ : ∃ y : Int32, y = x1_3 + 1 := ⟨_, rfl⟩
    have tz_56 : z_56.toInt = x1_3.toInt + 1 := add_t ez_56 (show -2147483648 ≤ x1_3.toInt + 1 by omega) (show x1_3.toInt + 1 < 2147483648 by omega)
    refine lv_iinc (v := z_56) (lv' := [(3, .int z_56), (0, .ref a), (1, .int v), (2, .int w)]) hx hb dX10_splitsTwo_23 hl (k := 0) rfl (by rw [ez_56]; rfl) (by decide) rfl (fun ls hl => ?_)
    refine lv_goto (tgt := 2) hx hb dX10_splitsTwo_26 (by decide) ?_
    exact ih1 (z_56, G_55) _ _ _ (by show (3721 - z_56.toInt).toNat < (3721 - x1_3.toInt).toNat; omega) ⟨(by show 0 ≤ z_56.toInt; omega), (by show z_56.toInt ≤ 3721; omega), hF, hT, hS, lv_sub hl [0, 1, 2, 3] rfl⟩
set_option maxHeartbeats 4000000 in
set_option maxRecDepth 100000 in
theorem t_X10_fallsOn (l : Launch) (D : va_G) (cy : Nat → ClassId) (base : Nat) (τ : Nat → Nat) (G : Gh) (a : Nat) (h_a : τ a = 11) (v : Int32) (r_v : 0 ≤ v.toInt ∧ v.toInt ≤ 63) (w : Int32) (r_w : 1 ≤ w.toInt ∧ w.toInt ≤ 64) : MM l yX10_fallsOn cX10_fallsOn 7 none 1 0 0 D cy [.ref a, .int v, .int w] (PT D cy base τ G) (QT D cy base τ G [83, 85] (fun v g => v = none ∧ (True))) (RA base) := by
  refine MM.of (by decide) (Nat.le_of_ble_eq_true rfl) ?_
  intro p e s m below meth c C hPT ls hl
  obtain ⟨hx, hb, hr, hml, hown, hts, hlocks, hK, hnm⟩ := C
  obtain ⟨hZ, hT⟩ := hPT
  have hS : va_S (RA base) s.heap s.heap [] := va_S.rf
  have hF : Fr τ [83, 85] G G := Fr.rf
  have hl : lv_has ls 7 [(0, .ref a), (1, .int v), (2, .int w)] := hl
  refine lv_iconst (v := 0) hx hb dX10_fallsOn_0 (by decide) ?_
  refine lv_istore_n (lv' := [(3, .int 0), (0, .ref a), (1, .int v), (2, .int w)]) hx hb dX10_fallsOn_1 rfl hl (by decide) rfl (fun ls hl => ?_)
  refine W.loop (σ := Int32 × Gh) (fun w1 H locs ls => 0 ≤ w1.1.toInt ∧ w1.1.toInt ≤ 64 ∧ Fr τ [83, 85] G w1.2 ∧ TY D cy base τ w1.2 H ∧ va_S (RA base) s.heap H locs ∧ lv_has ls 7 [(3, .int w1.1), (0, .ref a), (1, .int v), (2, .int w)]) (fun w1 => (64 - w1.1.toInt).toNat) ?_ ((0 : Int32), G) _ _ _ ⟨(by show 0 ≤ (0 : Int32).toInt; decide), (by show (0 : Int32).toInt ≤ 64; decide), hF, hT, hS, lv_sub hl [0, 1, 2, 3] rfl⟩
  intro w1 H locs ls hI ih1
  obtain ⟨x1_3, G_1⟩ := w1
  obtain ⟨i1_0, i1_1, hF, hT, hS, hl⟩ := hI
  have i1_0 : 0 ≤ x1_3.toInt := i1_0
  have i1_1 : x1_3.toInt ≤ 64 := i1_1
  have hF : Fr τ [83, 85] G G_1 := hF
  have hT : TY D cy base τ G_1 H := hT
  have hS : va_S (RA base) s.heap H locs := hS
  have hl : lv_has ls 7 [(3, .int x1_3), (0, .ref a), (1, .int v), (2, .int w)] := hl
  refine lv_iload_n hx hb dX10_fallsOn_2 rfl (lv_at hl 0 rfl) ?_
  refine lv_iload_n hx hb dX10_fallsOn_3 rfl (lv_at hl 3 rfl) ?_
  refine lv_icmp_ge (tgt := 34) hx hb dX10_fallsOn_4 (by decide) (fun c_2 => ?_) (fun c_2 => ?_)
  · skip
    have tc_2 : w.toInt ≤ x1_3.toInt := (fa_le _ _).mp c_2
    refine lv_iconst (v := 0) hx hb dX10_fallsOn_34 (by decide) ?_
    refine lv_istore_n (lv' := [(3, .int 0), (0, .ref a), (1, .int v), (2, .int w)]) hx hb dX10_fallsOn_35 rfl hl (by decide) rfl (fun ls hl => ?_)
    refine W.loop (σ := Int32 × Gh) (fun w3 H locs ls => 0 ≤ w3.1.toInt ∧ w3.1.toInt ≤ 6 ∧ Fr τ [83, 85] G w3.2 ∧ TY D cy base τ w3.2 H ∧ va_S (RA base) s.heap H locs ∧ lv_has ls 7 [(3, .int w3.1), (0, .ref a), (1, .int v), (2, .int w)]) (fun w3 => (6 - w3.1.toInt).toNat) ?_ ((0 : Int32), G_1) _ _ _ ⟨(by show 0 ≤ (0 : Int32).toInt; decide), (by show (0 : Int32).toInt ≤ 6; decide), hF, hT, hS, lv_sub hl [0, 1, 2, 3] rfl⟩
    intro w3 H locs ls hI ih3
    obtain ⟨x3_3, G_3⟩ := w3
    obtain ⟨i3_0, i3_1, hF, hT, hS, hl⟩ := hI
    have i3_0 : 0 ≤ x3_3.toInt := i3_0
    have i3_1 : x3_3.toInt ≤ 6 := i3_1
    have hF : Fr τ [83, 85] G G_3 := hF
    have hT : TY D cy base τ G_3 H := hT
    have hS : va_S (RA base) s.heap H locs := hS
    have hl : lv_has ls 7 [(3, .int x3_3), (0, .ref a), (1, .int v), (2, .int w)] := hl
    refine lv_iload_n hx hb dX10_fallsOn_36 rfl (lv_at hl 0 rfl) ?_
    refine lv_aload_n hx hb dX10_fallsOn_37 rfl (lv_at hl 1 rfl) ?_
    refine t_getr cf_11 hx hb hts hown hK hT h_a (k := 20) (P := fun q => τ q = 70) rfl (fun _ h9 => h9) fl_X10_43 (fun _ h9 => h9) dX10_fallsOn_38 (fun q_4 eq_4 hq_4 => ?_)
    have eq_4 := (hF.r h_a (by decide) rfl _).symm.trans eq_4
    refine lv_iconst (v := 0) hx hb dX10_fallsOn_41 (by decide) ?_
    refine t_iald (n := 5) (i := 0) rfl (by decide) hx hb hK hT hq_4 (hT.len hq_4 (by decide)) ⟨by decide, by decide⟩ dX10_fallsOn_42 (fun z_5 ez_5 rz_5 => ?_)
    have ez_5 : z_5 = G_3.1 q_4 0 := ez_5
    have rz_5 : 0 ≤ z_5.toInt ∧ z_5.toInt ≤ 6 := rz_5
    have ez_5 : z_5 = G.1 q_4 0 := ez_5.trans (hF.i hq_4 (by decide) rfl _)
    refine lv_icmp_ge (tgt := 146) hx hb dX10_fallsOn_43 (by decide) (fun c_6 => ?_) (fun c_6 => ?_)
    · skip
      have tc_6 : z_5.toInt ≤ x3_3.toInt := (fa_le _ _).mp c_6
      refine lv_iconst (v := 0) hx hb dX10_fallsOn_146 (by decide) ?_
      refine lv_istore_n (lv' := [(3, .int 0), (0, .ref a), (1, .int v), (2, .int w)]) hx hb dX10_fallsOn_147 rfl hl (by decide) rfl (fun ls hl => ?_)
      refine W.loop (σ := Int32 × Gh) (fun w7 H locs ls => 0 ≤ w7.1.toInt ∧ w7.1.toInt ≤ 64 ∧ Fr τ [83, 85] G w7.2 ∧ TY D cy base τ w7.2 H ∧ va_S (RA base) s.heap H locs ∧ lv_has ls 7 [(3, .int w7.1), (0, .ref a), (1, .int v), (2, .int w)]) (fun w7 => (64 - w7.1.toInt).toNat) ?_ ((0 : Int32), G_3) _ _ _ ⟨(by show 0 ≤ (0 : Int32).toInt; decide), (by show (0 : Int32).toInt ≤ 64; decide), hF, hT, hS, lv_sub hl [0, 1, 2, 3] rfl⟩
      intro w7 H locs ls hI ih7
      obtain ⟨x7_3, G_7⟩ := w7
      obtain ⟨i7_0, i7_1, hF, hT, hS, hl⟩ := hI
      have i7_0 : 0 ≤ x7_3.toInt := i7_0
      have i7_1 : x7_3.toInt ≤ 64 := i7_1
      have hF : Fr τ [83, 85] G G_7 := hF
      have hT : TY D cy base τ G_7 H := hT
      have hS : va_S (RA base) s.heap H locs := hS
      have hl : lv_has ls 7 [(3, .int x7_3), (0, .ref a), (1, .int v), (2, .int w)] := hl
      refine lv_iload_n hx hb dX10_fallsOn_148 rfl (lv_at hl 0 rfl) ?_
      refine lv_iload_n hx hb dX10_fallsOn_149 rfl (lv_at hl 3 rfl) ?_
      refine lv_icmp_ge (tgt := 174) hx hb dX10_fallsOn_150 (by decide) (fun c_8 => ?_) (fun c_8 => ?_)
      · skip
        have tc_8 : w.toInt ≤ x7_3.toInt := (fa_le _ _).mp c_8
        exact ret_v hx hb hr hlocks ⟨⟨hS.1, hS.2.1⟩, G_7, hF, ⟨rfl, trivial⟩, hT⟩ hS.2.2 (Nat.le_of_ble_eq_true rfl) (Nat.le_of_ble_eq_true rfl) dX10_fallsOn_174
      · skip
        have tc_8 : ¬ w.toInt ≤ x7_3.toInt := fun h => c_8 ((fa_le _ _).mpr h)
        refine lv_aload_n hx hb dX10_fallsOn_153 rfl (lv_at hl 1 rfl) ?_
        refine t_getr cf_11 hx hb hts hown hK hT h_a (k := 33) (P := fun q => τ q = 83) rfl (fun _ h9 => h9) fl_X10_83 (fun _ h9 => h9) dX10_fallsOn_154 (fun q_9 eq_9 hq_9 => ?_)
        have eq_9 := (hF.r h_a (by decide) rfl _).symm.trans eq_9
        refine lv_iload_n hx hb dX10_fallsOn_157 rfl (lv_at hl 0 rfl) ?_
        refine lv_dup2_11 hx hb dX10_fallsOn_158 rfl rfl ?_
        refine t_lald (n := 64) (i := x7_3) rfl (by decide) hx hb hK hT hq_9 (hT.len hq_9 (by decide)) ⟨by omega, by omega⟩ dX10_fallsOn_159 (fun z_10 ez_10 => ?_)
        refine lv_aload_n hx hb dX10_fallsOn_160 rfl (lv_at hl 1 rfl) ?_
        refine t_getr cf_11 hx hb hts hown hK hT h_a (k := 35) (P := fun q => τ q = 85) rfl (fun _ h9 => h9) fl_X10_89 (fun _ h9 => h9) dX10_fallsOn_161 (fun q_11 eq_11 hq_11 => ?_)
        have eq_11 := (hF.r h_a (by decide) rfl _).symm.trans eq_11
        refine lv_iload_n hx hb dX10_fallsOn_164 rfl (lv_at hl 0 rfl) ?_
        refine t_lald (n := 64) (i := x7_3) rfl (by decide) hx hb hK hT hq_11 (hT.len hq_11 (by decide)) ⟨by omega, by omega⟩ dX10_fallsOn_165 (fun z_12 ez_12 => ?_)
        refine lv_ladd hx hb dX10_fallsOn_166 ?_
        refine lv_topl (fun z_13 ez_13 => ?_)
        refine t_last (n := 64) (i := x7_3) (x := z_13) rfl (by decide) hx hb hK hT hS hq_9 (hT.len hq_9 (by decide)) ⟨by omega, by omega⟩ dX10_fallsOn_167 (fun H locs G_14 eG_14 hT hS => ?_)
        have hF := hF.wL eG_14 hq_9 rfl
        obtain ⟨z_15, ez_15⟩ : ∃ y : Int32, y = x7_3 + 1 := ⟨_, rfl⟩
        have tz_15 : z_15.toInt = x7_3.toInt + 1 := add_t ez_15 (show -2147483648 ≤ x7_3.toInt + 1 by omega) (show x7_3.toInt + 1 < 2147483648 by omega)
        refine lv_iinc (v := z_15) (lv' := [(3, .int z_15), (0, .ref a), (1, .int v), (2, .int w)]) hx hb dX10_fallsOn_168 hl (k := 0) rfl (by rw [ez_15]; rfl) (by decide) rfl (fun ls hl => ?_)
        refine lv_goto (tgt := 148) hx hb dX10_fallsOn_171 (by decide) ?_
        exact ih7 (z_15, G_14) _ _ _ (by show (64 - z_15.toInt).toNat < (64 - x7_3.toInt).toNat; omega) ⟨(by show 0 ≤ z_15.toInt; omega), (by show z_15.toInt ≤ 64; omega), hF, hT, hS, lv_sub hl [0, 1, 2, 3] rfl⟩
    · skip
      have tc_6 : ¬ z_5.toInt ≤ x3_3.toInt := fun h => c_6 ((fa_le _ _).mpr h)
      refine lv_iload_n hx hb dX10_fallsOn_46 rfl (lv_at hl 2 rfl) ?_
      refine lv_iload_n hx hb dX10_fallsOn_47 rfl (lv_at hl 0 rfl) ?_
      refine lv_ishr hx hb dX10_fallsOn_48 ?_
      refine lv_topi (fun z_16 ez_16 => ?_)
      refine lv_iconst (v := 1) hx hb dX10_fallsOn_49 (by decide) ?_
      refine lv_iand hx hb dX10_fallsOn_50 ?_
      refine lv_topi (fun z_17 ez_17 => ?_)
      have tz_17 : 0 ≤ z_17.toInt ∧ z_17.toInt ≤ 1 := and_t ez_17 (by decide)
      refine lv_iconst (v := 1) hx hb dX10_fallsOn_51 (by decide) ?_
      refine lv_icmp_ne (tgt := 58) hx hb dX10_fallsOn_52 (by decide) (fun c_18 => ?_) (fun c_18 => ?_)
      · skip
        have tc_18 : ¬ z_17.toInt = 1 := fun h => c_18 ((fa_eq _ _).mpr h)
        refine lv_iconst (v := 0) hx hb dX10_fallsOn_58 (by decide) ?_
        refine lv_istore (lv' := [(4, .int 0), (3, .int x3_3), (0, .ref a), (1, .int v), (2, .int w)]) hx hb dX10_fallsOn_59 hl (by decide) rfl (fun ls hl => ?_)
        refine W.loop (σ := Int32 × Gh) (fun w19 H locs ls => 0 ≤ w19.1.toInt ∧ w19.1.toInt ≤ 64 ∧ Fr τ [83, 85] G w19.2 ∧ TY D cy base τ w19.2 H ∧ va_S (RA base) s.heap H locs ∧ lv_has ls 7 [(4, .int w19.1), (3, .int x3_3), (0, .ref a), (1, .int v), (2, .int w)]) (fun w19 => (64 - w19.1.toInt).toNat) ?_ ((0 : Int32), G_3) _ _ _ ⟨(by show 0 ≤ (0 : Int32).toInt; decide), (by show (0 : Int32).toInt ≤ 64; decide), hF, hT, hS, lv_sub hl [0, 1, 2, 3, 4] rfl⟩
        intro w19 H locs ls hI ih19
        obtain ⟨x19_4, G_19⟩ := w19
        obtain ⟨i19_0, i19_1, hF, hT, hS, hl⟩ := hI
        have i19_0 : 0 ≤ x19_4.toInt := i19_0
        have i19_1 : x19_4.toInt ≤ 64 := i19_1
        have hF : Fr τ [83, 85] G G_19 := hF
        have hT : TY D cy base τ G_19 H := hT
        have hS : va_S (RA base) s.heap H locs := hS
        have hl : lv_has ls 7 [(4, .int x19_4), (3, .int x3_3), (0, .ref a), (1, .int v), (2, .int w)] := hl
        refine lv_iload hx hb dX10_fallsOn_61 (lv_at hl 0 rfl) ?_
        refine lv_iload_n hx hb dX10_fallsOn_63 rfl (lv_at hl 4 rfl) ?_
        refine lv_icmp_ge (tgt := 140) hx hb dX10_fallsOn_64 (by decide) (fun c_20 => ?_) (fun c_20 => ?_)
        · skip
          have tc_20 : w.toInt ≤ x19_4.toInt := (fa_le _ _).mp c_20
          obtain ⟨z_21, ez_21⟩ : ∃ y : Int32, y = x3_3 + 1 := ⟨_, rfl⟩
          have tz_21 : z_21.toInt = x3_3.toInt + 1 := add_t ez_21 (show -2147483648 ≤ x3_3.toInt + 1 by omega) (show x3_3.toInt + 1 < 2147483648 by omega)
          refine lv_iinc (v := z_21) (lv' := [(3, .int z_21), (4, .int x19_4), (0, .ref a), (1, .int v), (2, .int w)]) hx hb dX10_fallsOn_140 hl (k := 1) rfl (by rw [ez_21]; rfl) (by decide) rfl (fun ls hl => ?_)
          refine lv_goto (tgt := 36) hx hb dX10_fallsOn_143 (by decide) ?_
          exact ih3 (z_21, G_19) _ _ _ (by show (6 - z_21.toInt).toNat < (6 - x3_3.toInt).toNat; omega) ⟨(by show 0 ≤ z_21.toInt; omega), (by show z_21.toInt ≤ 6; omega), hF, hT, hS, lv_sub hl [0, 2, 3, 4] rfl⟩
        · skip
          have tc_20 : ¬ w.toInt ≤ x19_4.toInt := fun h => c_20 ((fa_le _ _).mpr h)
          refine lv_iload hx hb dX10_fallsOn_67 (lv_at hl 0 rfl) ?_
          refine lv_iload_n hx hb dX10_fallsOn_69 rfl (lv_at hl 1 rfl) ?_
          refine lv_ishr hx hb dX10_fallsOn_70 ?_
          refine lv_topi (fun z_22 ez_22 => ?_)
          refine lv_iconst (v := 1) hx hb dX10_fallsOn_71 (by decide) ?_
          refine lv_iand hx hb dX10_fallsOn_72 ?_
          refine lv_topi (fun z_23 ez_23 => ?_)
          have tz_23 : 0 ≤ z_23.toInt ∧ z_23.toInt ≤ 1 := and_t ez_23 (by decide)
          refine lv_iconst (v := 1) hx hb dX10_fallsOn_73 (by decide) ?_
          refine lv_icmp_eq (tgt := 134) hx hb dX10_fallsOn_74 (by decide) (fun c_24 => ?_) (fun c_24 => ?_)
          · skip
            have tc_24 : z_23.toInt = 1 := (fa_eq _ _).mp c_24
            obtain ⟨z_25, ez_25⟩ : ∃ y : Int32, y = x19_4 + 1 := ⟨_, rfl⟩
            have tz_25 : z_25.toInt = x19_4.toInt + 1 := add_t ez_25 (show -2147483648 ≤ x19_4.toInt + 1 by omega) (show x19_4.toInt + 1 < 2147483648 by omega)
            refine lv_iinc (v := z_25) (lv' := [(4, .int z_25), (3, .int x3_3), (0, .ref a), (1, .int v), (2, .int w)]) hx hb dX10_fallsOn_134 hl (k := 0) rfl (by rw [ez_25]; rfl) (by decide) rfl (fun ls hl => ?_)
            refine lv_goto (tgt := 61) hx hb dX10_fallsOn_137 (by decide) ?_
            exact ih19 (z_25, G_19) _ _ _ (by show (64 - z_25.toInt).toNat < (64 - x19_4.toInt).toNat; omega) ⟨(by show 0 ≤ z_25.toInt; omega), (by show z_25.toInt ≤ 64; omega), hF, hT, hS, lv_sub hl [0, 1, 2, 3, 4] rfl⟩
          · skip
            have tc_24 : ¬ z_23.toInt = 1 := fun h => c_24 ((fa_eq _ _).mpr h)
            refine lv_aload_n hx hb dX10_fallsOn_77 rfl (lv_at hl 2 rfl) ?_
            refine t_getr cf_11 hx hb hts hown hK hT h_a (k := 35) (P := fun q => τ q = 85) rfl (fun _ h9 => h9) fl_X10_89 (fun _ h9 => h9) dX10_fallsOn_78 (fun q_26 eq_26 hq_26 => ?_)
            have eq_26 := (hF.r h_a (by decide) rfl _).symm.trans eq_26
            refine lv_iload hx hb dX10_fallsOn_81 (lv_at hl 0 rfl) ?_
            refine t_lald (n := 64) (i := x19_4) rfl (by decide) hx hb hK hT hq_26 (hT.len hq_26 (by decide)) ⟨by omega, by omega⟩ dX10_fallsOn_83 (fun z_27 ez_27 => ?_)
            refine lv_lconst (v := 0) hx hb dX10_fallsOn_84 (by decide) ?_
            refine W.lcmp hx hb dX10_fallsOn_85 ?_
            refine lv_topi (fun z_28 ez_28 => ?_)
            have tz_28 : (z_28.toInt < 0 ↔ z_27.toInt < 0) ∧ (0 < z_28.toInt ↔ 0 < z_27.toInt) ∧ -1 ≤ z_28.toInt ∧ z_28.toInt ≤ 1 := cmp_t ez_28
            refine lv_if_ne (tgt := 92) hx hb dX10_fallsOn_86 (by decide) (fun c_29 => ?_) (fun c_29 => ?_)
            · skip
              have tc_29 : ¬ z_28.toInt = 0 := fun h => c_29 ((fa_eq _ _).mpr h)
              refine lv_aload_n hx hb dX10_fallsOn_92 rfl (lv_at hl 2 rfl) ?_
              refine t_getr cf_11 hx hb hts hown hK hT h_a (k := 35) (P := fun q => τ q = 85) rfl (fun _ h9 => h9) fl_X10_89 (fun _ h9 => h9) dX10_fallsOn_93 (fun q_30 eq_30 hq_30 => ?_)
              have w_31 : q_26 = q_30 := Option.some.inj (eq_26.symm.trans ((hF.r h_a (by decide) rfl _).symm.trans eq_30))
              subst w_31
              refine lv_iload hx hb dX10_fallsOn_96 (lv_at hl 0 rfl) ?_
              refine t_lald (n := 64) (i := x19_4) rfl (by decide) hx hb hK hT hq_26 (hT.len hq_26 (by decide)) ⟨by omega, by omega⟩ dX10_fallsOn_98 (fun z_32 ez_32 => ?_)
              refine lv_aload_n hx hb dX10_fallsOn_99 rfl (lv_at hl 2 rfl) ?_
              refine lv_iload_n hx hb dX10_fallsOn_100 rfl (lv_at hl 1 rfl) ?_
              refine pu_calli (runV (As := [.int x3_3]) (rest := [.long z_32]) ⟨hx, hb, hml, hown, hts⟩ (t_X10_shutOf l D cy base τ G_19 a h_a x3_3 ⟨by omega, by omega⟩) sV_X10_293 hK (t_recv cf_11 hK hT h_a) ⟨Nat.le_trans hZ hS.1, hT⟩ ⟨Nat.le_of_ble_eq_true rfl, Nat.le_of_ble_eq_true rfl⟩ rfl hl.1 rfl (Nat.le_of_ble_eq_true rfl) dX10_fallsOn_101 ⟨Nat.le_of_ble_eq_true rfl, Nat.le_of_ble_eq_true rfl⟩) (fun r_33 hr_33 => ?_)
              refine pu_calll (runS (As := [.long z_32, .int r_33]) (rest := []) ⟨hx, hb, hml, hown, hts⟩ (t_X10_hundredths l D cy base τ G_19 z_32 r_33) sS_X10_290 hK ⟨Nat.le_trans hZ hS.1, hT⟩ ⟨Nat.le_of_ble_eq_true rfl, Nat.le_of_ble_eq_true rfl⟩ rfl hl.1 rfl (Nat.le_of_ble_eq_true rfl) dX10_fallsOn_104 ⟨Nat.le_of_ble_eq_true rfl, Nat.le_of_ble_eq_true rfl⟩) (fun r_34 hr_34 => ?_)
              refine lv_lstore (lv' := [(5, .long r_34), (4, .int x19_4), (3, .int x3_3), (0, .ref a), (1, .int v), (2, .int w)]) hx hb dX10_fallsOn_107 hl (by decide) rfl (fun ls hl => ?_)
              refine lv_aload_n hx hb dX10_fallsOn_109 rfl (lv_at hl 3 rfl) ?_
              refine t_getr cf_11 hx hb hts hown hK hT h_a (k := 35) (P := fun q => τ q = 85) rfl (fun _ h9 => h9) fl_X10_89 (fun _ h9 => h9) dX10_fallsOn_110 (fun q_35 eq_35 hq_35 => ?_)
              have w_36 : q_26 = q_35 := Option.some.inj (eq_26.symm.trans ((hF.r h_a (by decide) rfl _).symm.trans eq_35))
              subst w_36
              refine lv_iload hx hb dX10_fallsOn_113 (lv_at hl 1 rfl) ?_
              refine lv_iconst (v := 1) hx hb dX10_fallsOn_115 (by decide) ?_
              refine lv_iload_n hx hb dX10_fallsOn_116 rfl (lv_at hl 2 rfl) ?_
              refine lv_ishl hx hb dX10_fallsOn_117 ?_
              refine lv_topi (fun z_37 ez_37 => ?_)
              have tz_37 : 1 ≤ z_37.toInt ∧ z_37.toInt ≤ 32 := shl5_t ez_37 (by omega) (by omega)
              refine lv_ior hx hb dX10_fallsOn_118 ?_
              refine lv_topi (fun z_38 ez_38 => ?_)
              have tz_38 : 0 ≤ z_38.toInt ∧ z_38.toInt ≤ 63 := or6_t ez_38 (by omega) (by omega) (by omega) (by omega)
              refine lv_lload hx hb dX10_fallsOn_119 (lv_at hl 0 rfl) ?_
              refine t_last (n := 64) (i := z_38) (x := r_34) rfl (by decide) hx hb hK hT hS hq_26 (hT.len hq_26 (by decide)) ⟨by omega, by omega⟩ dX10_fallsOn_121 (fun H locs G_39 eG_39 hT hS => ?_)
              have hF := hF.wL eG_39 hq_26 rfl
              refine lv_aload_n hx hb dX10_fallsOn_122 rfl (lv_at hl 3 rfl) ?_
              refine t_getr cf_11 hx hb hts hown hK hT h_a (k := 35) (P := fun q => τ q = 85) rfl (fun _ h9 => h9) fl_X10_89 (fun _ h9 => h9) dX10_fallsOn_123 (fun q_40 eq_40 hq_40 => ?_)
              have w_41 : q_26 = q_40 := Option.some.inj (eq_26.symm.trans ((hF.r h_a (by decide) rfl _).symm.trans eq_40))
              subst w_41
              refine lv_iload hx hb dX10_fallsOn_126 (lv_at hl 1 rfl) ?_
              refine lv_dup2_11 hx hb dX10_fallsOn_128 rfl rfl ?_
              refine t_lald (n := 64) (i := x19_4) rfl (by decide) hx hb hK hT hq_26 (hT.len hq_26 (by decide)) ⟨by omega, by omega⟩ dX10_fallsOn_129 (fun z_42 ez_42 => ?_)
              refine lv_lload hx hb dX10_fallsOn_130 (lv_at hl 0 rfl) ?_
              refine lv_lsub hx hb dX10_fallsOn_132 ?_
              refine lv_topl (fun z_43 ez_43 => ?_)
              refine t_last (n := 64) (i := x19_4) (x := z_43) rfl (by decide) hx hb hK hT hS hq_26 (hT.len hq_26 (by decide)) ⟨by omega, by omega⟩ dX10_fallsOn_133 (fun H locs G_44 eG_44 hT hS => ?_)
              have hF := hF.wL eG_44 hq_26 rfl
              obtain ⟨z_45, ez_45⟩ : ∃ y : Int32, y = x19_4 + 1 := ⟨_, rfl⟩
              have tz_45 : z_45.toInt = x19_4.toInt + 1 := add_t ez_45 (show -2147483648 ≤ x19_4.toInt + 1 by omega) (show x19_4.toInt + 1 < 2147483648 by omega)
              refine lv_iinc (v := z_45) (lv' := [(4, .int z_45), (5, .long r_34), (3, .int x3_3), (0, .ref a), (1, .int v), (2, .int w)]) hx hb dX10_fallsOn_134 hl (k := 1) rfl (by rw [ez_45]; rfl) (by decide) rfl (fun ls hl => ?_)
              refine lv_goto (tgt := 61) hx hb dX10_fallsOn_137 (by decide) ?_
              exact ih19 (z_45, G_44) _ _ _ (by show (64 - z_45.toInt).toNat < (64 - x19_4.toInt).toNat; omega) ⟨(by show 0 ≤ z_45.toInt; omega), (by show z_45.toInt ≤ 64; omega), hF, hT, hS, lv_sub hl [0, 2, 3, 4, 5] rfl⟩
            · skip
              have tc_29 : z_28.toInt = 0 := (fa_eq _ _).mp c_29
              refine lv_goto (tgt := 134) hx hb dX10_fallsOn_89 (by decide) ?_
              obtain ⟨z_46, ez_46⟩ : ∃ y : Int32, y = x19_4 + 1 := ⟨_, rfl⟩
              have tz_46 : z_46.toInt = x19_4.toInt + 1 := add_t ez_46 (show -2147483648 ≤ x19_4.toInt + 1 by omega) (show x19_4.toInt + 1 < 2147483648 by omega)
              refine lv_iinc (v := z_46) (lv' := [(4, .int z_46), (3, .int x3_3), (0, .ref a), (1, .int v), (2, .int w)]) hx hb dX10_fallsOn_134 hl (k := 0) rfl (by rw [ez_46]; rfl) (by decide) rfl (fun ls hl => ?_)
              refine lv_goto (tgt := 61) hx hb dX10_fallsOn_137 (by decide) ?_
              exact ih19 (z_46, G_19) _ _ _ (by show (64 - z_46.toInt).toNat < (64 - x19_4.toInt).toNat; omega) ⟨(by show 0 ≤ z_46.toInt; omega), (by show z_46.toInt ≤ 64; omega), hF, hT, hS, lv_sub hl [0, 1, 2, 3, 4] rfl⟩
      · skip
        have tc_18 : z_17.toInt = 1 := (fa_eq _ _).mp c_18
        refine lv_goto (tgt := 140) hx hb dX10_fallsOn_55 (by decide) ?_
        obtain ⟨z_47, ez_47⟩ : ∃ y : Int32, y = x3_3 + 1 := ⟨_, rfl⟩
        have tz_47 : z_47.toInt = x3_3.toInt + 1 := add_t ez_47 (show -2147483648 ≤ x3_3.toInt + 1 by omega) (show x3_3.toInt + 1 < 2147483648 by omega)
        refine lv_iinc (v := z_47) (lv' := [(3, .int z_47), (0, .ref a), (1, .int v), (2, .int w)]) hx hb dX10_fallsOn_140 hl (k := 0) rfl (by rw [ez_47]; rfl) (by decide) rfl (fun ls hl => ?_)
        refine lv_goto (tgt := 36) hx hb dX10_fallsOn_143 (by decide) ?_
        exact ih3 (z_47, G_3) _ _ _ (by show (6 - z_47.toInt).toNat < (6 - x3_3.toInt).toNat; omega) ⟨(by show 0 ≤ z_47.toInt; omega), (by show z_47.toInt ≤ 6; omega), hF, hT, hS, lv_sub hl [0, 1, 2, 3] rfl⟩
  · skip
    have tc_2 : ¬ w.toInt ≤ x1_3.toInt := fun h => c_2 ((fa_le _ _).mpr h)
    refine lv_aload_n hx hb dX10_fallsOn_7 rfl (lv_at hl 1 rfl) ?_
    refine t_getr cf_11 hx hb hts hown hK hT h_a (k := 35) (P := fun q => τ q = 85) rfl (fun _ h9 => h9) fl_X10_89 (fun _ h9 => h9) dX10_fallsOn_8 (fun q_48 eq_48 hq_48 => ?_)
    have eq_48 := (hF.r h_a (by decide) rfl _).symm.trans eq_48
    refine lv_iload_n hx hb dX10_fallsOn_11 rfl (lv_at hl 0 rfl) ?_
    refine lv_iload_n hx hb dX10_fallsOn_12 rfl (lv_at hl 0 rfl) ?_
    refine lv_iload_n hx hb dX10_fallsOn_13 rfl (lv_at hl 2 rfl) ?_
    refine lv_icmp_ne (tgt := 26) hx hb dX10_fallsOn_14 (by decide) (fun c_49 => ?_) (fun c_49 => ?_)
    · skip
      have tc_49 : ¬ x1_3.toInt = v.toInt := fun h => c_49 ((fa_eq _ _).mpr h)
      refine lv_lconst (v := 0) hx hb dX10_fallsOn_26 (by decide) ?_
      refine t_last (n := 64) (i := x1_3) (x := 0) rfl (by decide) hx hb hK hT hS hq_48 (hT.len hq_48 (by decide)) ⟨by omega, by omega⟩ dX10_fallsOn_27 (fun H locs G_50 eG_50 hT hS => ?_)
      have hF := hF.wL eG_50 hq_48 rfl
      obtain ⟨z_51, ez_51⟩ : ∃ y : Int32, y = x1_3 + 1 := ⟨_, rfl⟩
      have tz_51 : z_51.toInt = x1_3.toInt + 1 := add_t ez_51 (show -2147483648 ≤ x1_3.toInt + 1 by omega) (show x1_3.toInt + 1 < 2147483648 by omega)
      refine lv_iinc (v := z_51) (lv' := [(3, .int z_51), (0, .ref a), (1, .int v), (2, .int w)]) hx hb dX10_fallsOn_28 hl (k := 0) rfl (by rw [ez_51]; rfl) (by decide) rfl (fun ls hl => ?_)
      refine lv_goto (tgt := 2) hx hb dX10_fallsOn_31 (by decide) ?_
      exact ih1 (z_51, G_50) _ _ _ (by show (64 - z_51.toInt).toNat < (64 - x1_3.toInt).toNat; omega) ⟨(by show 0 ≤ z_51.toInt; omega), (by show z_51.toInt ≤ 64; omega), hF, hT, hS, lv_sub hl [0, 1, 2, 3] rfl⟩
    · skip
      have tc_49 : x1_3.toInt = v.toInt := (fa_eq _ _).mp c_49
      refine lv_aload_n hx hb dX10_fallsOn_17 rfl (lv_at hl 1 rfl) ?_
      refine t_getr cf_11 hx hb hts hown hK hT h_a (k := 32) (P := fun q => τ q = 82) rfl (fun _ h9 => h9) fl_X10_80 (fun _ h9 => h9) dX10_fallsOn_18 (fun q_52 eq_52 hq_52 => ?_)
      have eq_52 := (hF.r h_a (by decide) rfl _).symm.trans eq_52
      refine lv_iload_n hx hb dX10_fallsOn_21 rfl (lv_at hl 2 rfl) ?_
      refine t_lald (n := 3721) (i := v) rfl (by decide) hx hb hK hT hq_52 (hT.len hq_52 (by decide)) ⟨by omega, by omega⟩ dX10_fallsOn_22 (fun z_53 ez_53 => ?_)
      have ez_53 := ez_53.trans (hF.l hq_52 (by decide) rfl _)
      refine lv_goto (tgt := 27) hx hb dX10_fallsOn_23 (by decide) ?_
      refine t_last (n := 64) (i := x1_3) (x := z_53) rfl (by decide) hx hb hK hT hS hq_48 (hT.len hq_48 (by decide)) ⟨by omega, by omega⟩ dX10_fallsOn_27 (fun H locs G_54 eG_54 hT hS => ?_)
      have hF := hF.wL eG_54 hq_48 rfl
      obtain ⟨z_55, ez_55⟩ : ∃ y : Int32, y = x1_3 + 1 := ⟨_, rfl⟩
      have tz_55 : z_55.toInt = x1_3.toInt + 1 := add_t ez_55 (show -2147483648 ≤ x1_3.toInt + 1 by omega) (show x1_3.toInt + 1 < 2147483648 by omega)
      refine lv_iinc (v := z_55) (lv' := [(3, .int z_55), (0, .ref a), (1, .int v), (2, .int w)]) hx hb dX10_fallsOn_28 hl (k := 0) rfl (by rw [ez_55]; rfl) (by decide) rfl (fun ls hl => ?_)
      refine lv_goto (tgt := 2) hx hb dX10_fallsOn_31 (by decide) ?_
      exact ih1 (z_55, G_54) _ _ _ (by show (64 - z_55.toInt).toNat < (64 - x1_3.toInt).toNat; omega) ⟨(by show 0 ≤ z_55.toInt; omega), (by show z_55.toInt ≤ 64; omega), hF, hT, hS, lv_sub hl [0, 1, 2, 3] rfl⟩
set_option maxHeartbeats 4000000 in
set_option maxRecDepth 100000 in
theorem t_X10_splitsAll (l : Launch) (D : va_G) (cy : Nat → ClassId) (base : Nat) (τ : Nat → Nat) (G : Gh) (a : Nat) (h_a : τ a = 11) (v : Int32) (r_v : 0 ≤ v.toInt ∧ v.toInt ≤ 60) : MM l yX10_splitsAll cX10_splitsAll 9 none 2 0 0 D cy [.ref a, .int v] (PT D cy base τ G) (QT D cy base τ G [82, 83, 84, 85] (fun v g => v = none ∧ (True))) (RA base) := by
  refine MM.of (by decide) (Nat.le_of_ble_eq_true rfl) ?_
  intro p e s m below meth c C hPT ls hl
  obtain ⟨hx, hb, hr, hml, hown, hts, hlocks, hK, hnm⟩ := C
  obtain ⟨hZ, hT⟩ := hPT
  have hS : va_S (RA base) s.heap s.heap [] := va_S.rf
  have hF : Fr τ [82, 83, 84, 85] G G := Fr.rf
  have hl : lv_has ls 9 [(0, .ref a), (1, .int v)] := hl
  refine lv_iconst (v := 1) hx hb dX10_splitsAll_0 (by decide) ?_
  refine lv_aload_n hx hb dX10_splitsAll_1 rfl (lv_at hl 0 rfl) ?_
  refine t_getr cf_11 hx hb hts hown hK hT h_a (k := 20) (P := fun q => τ q = 70) rfl (fun _ h9 => h9) fl_X10_43 (fun _ h9 => h9) dX10_splitsAll_2 (fun q_1 eq_1 hq_1 => ?_)
  refine lv_iconst (v := 0) hx hb dX10_splitsAll_5 (by decide) ?_
  refine t_iald (n := 5) (i := 0) rfl (by decide) hx hb hK hT hq_1 (hT.len hq_1 (by decide)) ⟨by decide, by decide⟩ dX10_splitsAll_6 (fun z_2 ez_2 rz_2 => ?_)
  have ez_2 : z_2 = G.1 q_1 0 := ez_2
  have rz_2 : 0 ≤ z_2.toInt ∧ z_2.toInt ≤ 6 := rz_2
  refine lv_ishl hx hb dX10_splitsAll_7 ?_
  refine lv_topi (fun z_3 ez_3 => ?_)
  have tz_3 : 1 ≤ z_3.toInt ∧ z_3.toInt ≤ 64 := shl6_t ez_3 (by omega) (by omega)
  refine lv_istore_n (lv' := [(2, .int z_3), (0, .ref a), (1, .int v)]) hx hb dX10_splitsAll_8 rfl hl (by decide) rfl (fun ls hl => ?_)
  refine lv_iconst (v := 0) hx hb dX10_splitsAll_9 (by decide) ?_
  refine lv_istore_n (lv' := [(3, .int 0), (2, .int z_3), (0, .ref a), (1, .int v)]) hx hb dX10_splitsAll_10 rfl hl (by decide) rfl (fun ls hl => ?_)
  refine W.loop (σ := Int32 × Gh) (fun w4 H locs ls => 0 ≤ w4.1.toInt ∧ w4.1.toInt ≤ 64 ∧ Fr τ [82, 83, 84, 85] G w4.2 ∧ TY D cy base τ w4.2 H ∧ va_S (RA base) s.heap H locs ∧ lv_has ls 9 [(3, .int w4.1), (2, .int z_3), (0, .ref a), (1, .int v)]) (fun w4 => (64 - w4.1.toInt).toNat) ?_ ((0 : Int32), G) _ _ _ ⟨(by show 0 ≤ (0 : Int32).toInt; decide), (by show (0 : Int32).toInt ≤ 64; decide), hF, hT, hS, lv_sub hl [0, 1, 2, 3] rfl⟩
  intro w4 H locs ls hI ih4
  obtain ⟨x4_3, G_4⟩ := w4
  obtain ⟨i4_0, i4_1, hF, hT, hS, hl⟩ := hI
  have i4_0 : 0 ≤ x4_3.toInt := i4_0
  have i4_1 : x4_3.toInt ≤ 64 := i4_1
  have hF : Fr τ [82, 83, 84, 85] G G_4 := hF
  have hT : TY D cy base τ G_4 H := hT
  have hS : va_S (RA base) s.heap H locs := hS
  have hl : lv_has ls 9 [(3, .int x4_3), (2, .int z_3), (0, .ref a), (1, .int v)] := hl
  refine lv_iload_n hx hb dX10_splitsAll_11 rfl (lv_at hl 0 rfl) ?_
  refine lv_iload_n hx hb dX10_splitsAll_12 rfl (lv_at hl 1 rfl) ?_
  refine lv_icmp_ge (tgt := 46) hx hb dX10_splitsAll_13 (by decide) (fun c_5 => ?_) (fun c_5 => ?_)
  · skip
    have tc_5 : z_3.toInt ≤ x4_3.toInt := (fa_le _ _).mp c_5
    refine lv_iconst (v := 1) hx hb dX10_splitsAll_46 (by decide) ?_
    refine lv_istore_n (lv' := [(3, .int 1), (2, .int z_3), (0, .ref a), (1, .int v)]) hx hb dX10_splitsAll_47 rfl hl (by decide) rfl (fun ls hl => ?_)
    refine W.loop (σ := Int32 × Gh) (fun w6 H locs ls => 1 ≤ w6.1.toInt ∧ w6.1.toInt ≤ 61 ∧ Fr τ [82, 83, 84, 85] G w6.2 ∧ TY D cy base τ w6.2 H ∧ va_S (RA base) s.heap H locs ∧ lv_has ls 9 [(3, .int w6.1), (2, .int z_3), (0, .ref a), (1, .int v)]) (fun w6 => (61 - w6.1.toInt).toNat) ?_ ((1 : Int32), G_4) _ _ _ ⟨(by show 1 ≤ (1 : Int32).toInt; decide), (by show (1 : Int32).toInt ≤ 61; decide), hF, hT, hS, lv_sub hl [0, 1, 2, 3] rfl⟩
    intro w6 H locs ls hI ih6
    obtain ⟨x6_3, G_6⟩ := w6
    obtain ⟨i6_0, i6_1, hF, hT, hS, hl⟩ := hI
    have i6_0 : 1 ≤ x6_3.toInt := i6_0
    have i6_1 : x6_3.toInt ≤ 61 := i6_1
    have hF : Fr τ [82, 83, 84, 85] G G_6 := hF
    have hT : TY D cy base τ G_6 H := hT
    have hS : va_S (RA base) s.heap H locs := hS
    have hl : lv_has ls 9 [(3, .int x6_3), (2, .int z_3), (0, .ref a), (1, .int v)] := hl
    refine lv_iload_n hx hb dX10_splitsAll_48 rfl (lv_at hl 0 rfl) ?_
    refine lv_iload_n hx hb dX10_splitsAll_49 rfl (lv_at hl 3 rfl) ?_
    refine lv_icmp_gt (tgt := 180) hx hb dX10_splitsAll_50 (by decide) (fun c_7 => ?_) (fun c_7 => ?_)
    · skip
      have tc_7 : v.toInt < x6_3.toInt := (fa_lt _ _).mp c_7
      exact ret_v hx hb hr hlocks ⟨⟨hS.1, hS.2.1⟩, G_6, hF, ⟨rfl, trivial⟩, hT⟩ hS.2.2 (Nat.le_of_ble_eq_true rfl) (Nat.le_of_ble_eq_true rfl) dX10_splitsAll_180
    · skip
      have tc_7 : ¬ v.toInt < x6_3.toInt := fun h => c_7 ((fa_lt _ _).mpr h)
      refine lv_iconst (v := 0) hx hb dX10_splitsAll_53 (by decide) ?_
      refine lv_istore (lv' := [(4, .int 0), (3, .int x6_3), (2, .int z_3), (0, .ref a), (1, .int v)]) hx hb dX10_splitsAll_54 hl (by decide) rfl (fun ls hl => ?_)
      refine W.loop (σ := Int32 × Gh) (fun w8 H locs ls => 0 ≤ w8.1.toInt ∧ w8.1.toInt ≤ 64 ∧ Fr τ [82, 83, 84, 85] G w8.2 ∧ TY D cy base τ w8.2 H ∧ va_S (RA base) s.heap H locs ∧ lv_has ls 9 [(4, .int w8.1), (3, .int x6_3), (2, .int z_3), (0, .ref a), (1, .int v)]) (fun w8 => (64 - w8.1.toInt).toNat) ?_ ((0 : Int32), G_6) _ _ _ ⟨(by show 0 ≤ (0 : Int32).toInt; decide), (by show (0 : Int32).toInt ≤ 64; decide), hF, hT, hS, lv_sub hl [0, 1, 2, 3, 4] rfl⟩
      intro w8 H locs ls hI ih8
      obtain ⟨x8_4, G_8⟩ := w8
      obtain ⟨i8_0, i8_1, hF, hT, hS, hl⟩ := hI
      have i8_0 : 0 ≤ x8_4.toInt := i8_0
      have i8_1 : x8_4.toInt ≤ 64 := i8_1
      have hF : Fr τ [82, 83, 84, 85] G G_8 := hF
      have hT : TY D cy base τ G_8 H := hT
      have hS : va_S (RA base) s.heap H locs := hS
      have hl : lv_has ls 9 [(4, .int x8_4), (3, .int x6_3), (2, .int z_3), (0, .ref a), (1, .int v)] := hl
      refine lv_iload hx hb dX10_splitsAll_56 (lv_at hl 0 rfl) ?_
      refine lv_iload_n hx hb dX10_splitsAll_58 rfl (lv_at hl 2 rfl) ?_
      refine lv_icmp_ge (tgt := 152) hx hb dX10_splitsAll_59 (by decide) (fun c_9 => ?_) (fun c_9 => ?_)
      · skip
        have tc_9 : z_3.toInt ≤ x8_4.toInt := (fa_le _ _).mp c_9
        refine lv_iconst (v := 0) hx hb dX10_splitsAll_152 (by decide) ?_
        refine lv_istore (lv' := [(4, .int 0), (3, .int x6_3), (2, .int z_3), (0, .ref a), (1, .int v)]) hx hb dX10_splitsAll_153 hl (by decide) rfl (fun ls hl => ?_)
        refine W.loop (σ := Int32 × Gh) (fun w10 H locs ls => 0 ≤ w10.1.toInt ∧ w10.1.toInt ≤ 64 ∧ Fr τ [82, 83, 84, 85] G w10.2 ∧ TY D cy base τ w10.2 H ∧ va_S (RA base) s.heap H locs ∧ lv_has ls 9 [(4, .int w10.1), (3, .int x6_3), (2, .int z_3), (0, .ref a), (1, .int v)]) (fun w10 => (64 - w10.1.toInt).toNat) ?_ ((0 : Int32), G_8) _ _ _ ⟨(by show 0 ≤ (0 : Int32).toInt; decide), (by show (0 : Int32).toInt ≤ 64; decide), hF, hT, hS, lv_sub hl [0, 1, 2, 3, 4] rfl⟩
        intro w10 H locs ls hI ih10
        obtain ⟨x10_4, G_10⟩ := w10
        obtain ⟨i10_0, i10_1, hF, hT, hS, hl⟩ := hI
        have i10_0 : 0 ≤ x10_4.toInt := i10_0
        have i10_1 : x10_4.toInt ≤ 64 := i10_1
        have hF : Fr τ [82, 83, 84, 85] G G_10 := hF
        have hT : TY D cy base τ G_10 H := hT
        have hS : va_S (RA base) s.heap H locs := hS
        have hl : lv_has ls 9 [(4, .int x10_4), (3, .int x6_3), (2, .int z_3), (0, .ref a), (1, .int v)] := hl
        refine lv_iload hx hb dX10_splitsAll_155 (lv_at hl 0 rfl) ?_
        refine lv_iload_n hx hb dX10_splitsAll_157 rfl (lv_at hl 2 rfl) ?_
        refine lv_icmp_ge (tgt := 174) hx hb dX10_splitsAll_158 (by decide) (fun c_11 => ?_) (fun c_11 => ?_)
        · skip
          have tc_11 : z_3.toInt ≤ x10_4.toInt := (fa_le _ _).mp c_11
          obtain ⟨z_12, ez_12⟩ : ∃ y : Int32, y = x6_3 + 1 := ⟨_, rfl⟩
          have tz_12 : z_12.toInt = x6_3.toInt + 1 := add_t ez_12 (show -2147483648 ≤ x6_3.toInt + 1 by omega) (show x6_3.toInt + 1 < 2147483648 by omega)
          refine lv_iinc (v := z_12) (lv' := [(3, .int z_12), (4, .int x10_4), (2, .int z_3), (0, .ref a), (1, .int v)]) hx hb dX10_splitsAll_174 hl (k := 1) rfl (by rw [ez_12]; rfl) (by decide) rfl (fun ls hl => ?_)
          refine lv_goto (tgt := 48) hx hb dX10_splitsAll_177 (by decide) ?_
          exact ih6 (z_12, G_10) _ _ _ (by show (61 - z_12.toInt).toNat < (61 - x6_3.toInt).toNat; omega) ⟨(by show 1 ≤ z_12.toInt; omega), (by show z_12.toInt ≤ 61; omega), hF, hT, hS, lv_sub hl [0, 2, 3, 4] rfl⟩
        · skip
          have tc_11 : ¬ z_3.toInt ≤ x10_4.toInt := fun h => c_11 ((fa_le _ _).mpr h)
          refine lv_aload_n hx hb dX10_splitsAll_161 rfl (lv_at hl 3 rfl) ?_
          refine lv_iload hx hb dX10_splitsAll_162 (lv_at hl 0 rfl) ?_
          refine lv_iload_n hx hb dX10_splitsAll_164 rfl (lv_at hl 2 rfl) ?_
          refine t_callv (runV (As := [.int x10_4, .int z_3]) (rest := []) ⟨hx, hb, hml, hown, hts⟩ (t_X10_fallsOn l D cy base τ G_10 a h_a x10_4 ⟨by omega, by omega⟩ z_3 ⟨by omega, by omega⟩) sV_X10_334 hK (t_recv cf_11 hK hT h_a) ⟨Nat.le_trans hZ hS.1, hT⟩ ⟨Nat.le_of_ble_eq_true rfl, Nat.le_of_ble_eq_true rfl⟩ rfl hl.1 rfl (Nat.le_of_ble_eq_true rfl) dX10_splitsAll_165 ⟨Nat.le_of_ble_eq_true rfl, Nat.le_of_ble_eq_true rfl⟩) hS (fun G_13 H locs hF_13 hr_13 hT hS => ?_)
          have hF := hF.tr hF_13 rfl
          obtain ⟨z_14, ez_14⟩ : ∃ y : Int32, y = x10_4 + 1 := ⟨_, rfl⟩
          have tz_14 : z_14.toInt = x10_4.toInt + 1 := add_t ez_14 (show -2147483648 ≤ x10_4.toInt + 1 by omega) (show x10_4.toInt + 1 < 2147483648 by omega)
          refine lv_iinc (v := z_14) (lv' := [(4, .int z_14), (3, .int x6_3), (2, .int z_3), (0, .ref a), (1, .int v)]) hx hb dX10_splitsAll_168 hl (k := 0) rfl (by rw [ez_14]; rfl) (by decide) rfl (fun ls hl => ?_)
          refine lv_goto (tgt := 155) hx hb dX10_splitsAll_171 (by decide) ?_
          exact ih10 (z_14, G_13) _ _ _ (by show (64 - z_14.toInt).toNat < (64 - x10_4.toInt).toNat; omega) ⟨(by show 0 ≤ z_14.toInt; omega), (by show z_14.toInt ≤ 64; omega), hF, hT, hS, lv_sub hl [0, 1, 2, 3, 4] rfl⟩
      · skip
        have tc_9 : ¬ z_3.toInt ≤ x8_4.toInt := fun h => c_9 ((fa_le _ _).mpr h)
        refine lv_aload_n hx hb dX10_splitsAll_62 rfl (lv_at hl 3 rfl) ?_
        refine t_getr cf_11 hx hb hts hown hK hT h_a (k := 33) (P := fun q => τ q = 83) rfl (fun _ h9 => h9) fl_X10_83 (fun _ h9 => h9) dX10_splitsAll_63 (fun q_15 eq_15 hq_15 => ?_)
        have eq_15 := (hF.r h_a (by decide) rfl _).symm.trans eq_15
        refine lv_iload hx hb dX10_splitsAll_66 (lv_at hl 0 rfl) ?_
        refine t_lald (n := 64) (i := x8_4) rfl (by decide) hx hb hK hT hq_15 (hT.len hq_15 (by decide)) ⟨by omega, by omega⟩ dX10_splitsAll_68 (fun z_16 ez_16 => ?_)
        refine lv_aload_n hx hb dX10_splitsAll_69 rfl (lv_at hl 3 rfl) ?_
        refine lv_iload_n hx hb dX10_splitsAll_70 rfl (lv_at hl 1 rfl) ?_
        refine lv_iconst (v := 1) hx hb dX10_splitsAll_71 (by decide) ?_
        refine pu_calli (runV (As := [.int x6_3, .int 1]) (rest := [.long z_16]) ⟨hx, hb, hml, hown, hts⟩ (t_X10_chance l D cy base τ G_8 a h_a x6_3 1) sV_X10_286 hK (t_recv cf_11 hK hT h_a) ⟨Nat.le_trans hZ hS.1, hT⟩ ⟨Nat.le_of_ble_eq_true rfl, Nat.le_of_ble_eq_true rfl⟩ rfl hl.1 rfl (Nat.le_of_ble_eq_true rfl) dX10_splitsAll_72 ⟨Nat.le_of_ble_eq_true rfl, Nat.le_of_ble_eq_true rfl⟩) (fun r_17 hr_17 => ?_)
        refine pu_calll (runS (As := [.long z_16, .int r_17]) (rest := []) ⟨hx, hb, hml, hown, hts⟩ (t_X10_hundredths l D cy base τ G_8 z_16 r_17) sS_X10_290 hK ⟨Nat.le_trans hZ hS.1, hT⟩ ⟨Nat.le_of_ble_eq_true rfl, Nat.le_of_ble_eq_true rfl⟩ rfl hl.1 rfl (Nat.le_of_ble_eq_true rfl) dX10_splitsAll_75 ⟨Nat.le_of_ble_eq_true rfl, Nat.le_of_ble_eq_true rfl⟩) (fun r_18 hr_18 => ?_)
        refine lv_lstore (lv' := [(5, .long r_18), (4, .int x8_4), (3, .int x6_3), (2, .int z_3), (0, .ref a), (1, .int v)]) hx hb dX10_splitsAll_78 hl (by decide) rfl (fun ls hl => ?_)
        refine lv_aload_n hx hb dX10_splitsAll_80 rfl (lv_at hl 4 rfl) ?_
        refine t_getr cf_11 hx hb hts hown hK hT h_a (k := 34) (P := fun q => τ q = 84) rfl (fun _ h9 => h9) fl_X10_86 (fun _ h9 => h9) dX10_splitsAll_81 (fun q_19 eq_19 hq_19 => ?_)
        have eq_19 := (hF.r h_a (by decide) rfl _).symm.trans eq_19
        refine lv_iload hx hb dX10_splitsAll_84 (lv_at hl 1 rfl) ?_
        refine t_lald (n := 64) (i := x8_4) rfl (by decide) hx hb hK hT hq_19 (hT.len hq_19 (by decide)) ⟨by omega, by omega⟩ dX10_splitsAll_86 (fun z_20 ez_20 => ?_)
        refine lv_aload_n hx hb dX10_splitsAll_87 rfl (lv_at hl 4 rfl) ?_
        refine lv_iload_n hx hb dX10_splitsAll_88 rfl (lv_at hl 2 rfl) ?_
        refine lv_iconst (v := 0) hx hb dX10_splitsAll_89 (by decide) ?_
        refine pu_calli (runV (As := [.int x6_3, .int 0]) (rest := [.long z_20]) ⟨hx, hb, hml, hown, hts⟩ (t_X10_chance l D cy base τ G_8 a h_a x6_3 0) sV_X10_286 hK (t_recv cf_11 hK hT h_a) ⟨Nat.le_trans hZ hS.1, hT⟩ ⟨Nat.le_of_ble_eq_true rfl, Nat.le_of_ble_eq_true rfl⟩ rfl hl.1 rfl (Nat.le_of_ble_eq_true rfl) dX10_splitsAll_90 ⟨Nat.le_of_ble_eq_true rfl, Nat.le_of_ble_eq_true rfl⟩) (fun r_21 hr_21 => ?_)
        refine pu_calll (runS (As := [.long z_20, .int r_21]) (rest := []) ⟨hx, hb, hml, hown, hts⟩ (t_X10_hundredths l D cy base τ G_8 z_20 r_21) sS_X10_290 hK ⟨Nat.le_trans hZ hS.1, hT⟩ ⟨Nat.le_of_ble_eq_true rfl, Nat.le_of_ble_eq_true rfl⟩ rfl hl.1 rfl (Nat.le_of_ble_eq_true rfl) dX10_splitsAll_93 ⟨Nat.le_of_ble_eq_true rfl, Nat.le_of_ble_eq_true rfl⟩) (fun r_22 hr_22 => ?_)
        refine lv_lstore (lv' := [(7, .long r_22), (5, .long r_18), (4, .int x8_4), (3, .int x6_3), (2, .int z_3), (0, .ref a), (1, .int v)]) hx hb dX10_splitsAll_96 hl (by decide) rfl (fun ls hl => ?_)
        refine lv_aload_n hx hb dX10_splitsAll_98 rfl (lv_at hl 5 rfl) ?_
        refine t_getr cf_11 hx hb hts hown hK hT h_a (k := 32) (P := fun q => τ q = 82) rfl (fun _ h9 => h9) fl_X10_80 (fun _ h9 => h9) dX10_splitsAll_99 (fun q_23 eq_23 hq_23 => ?_)
        have eq_23 := (hF.r h_a (by decide) rfl _).symm.trans eq_23
        refine lv_iload hx hb dX10_splitsAll_102 (lv_at hl 2 rfl) ?_
        refine lv_lload hx hb dX10_splitsAll_104 (lv_at hl 1 rfl) ?_
        refine lv_lload hx hb dX10_splitsAll_106 (lv_at hl 0 rfl) ?_
        refine lv_ladd hx hb dX10_splitsAll_108 ?_
        refine lv_topl (fun z_24 ez_24 => ?_)
        refine t_last (n := 3721) (i := x8_4) (x := z_24) rfl (by decide) hx hb hK hT hS hq_23 (hT.len hq_23 (by decide)) ⟨by omega, by omega⟩ dX10_splitsAll_109 (fun H locs G_25 eG_25 hT hS => ?_)
        have hF := hF.wL eG_25 hq_23 rfl
        refine lv_aload_n hx hb dX10_splitsAll_110 rfl (lv_at hl 5 rfl) ?_
        refine t_getr cf_11 hx hb hts hown hK hT h_a (k := 34) (P := fun q => τ q = 84) rfl (fun _ h9 => h9) fl_X10_86 (fun _ h9 => h9) dX10_splitsAll_111 (fun q_26 eq_26 hq_26 => ?_)
        have w_27 : q_19 = q_26 := Option.some.inj (eq_19.symm.trans ((hF.r h_a (by decide) rfl _).symm.trans eq_26))
        subst w_27
        refine lv_iload hx hb dX10_splitsAll_114 (lv_at hl 2 rfl) ?_
        refine lv_aload_n hx hb dX10_splitsAll_116 rfl (lv_at hl 5 rfl) ?_
        refine t_getr cf_11 hx hb hts hown hK hT h_a (k := 33) (P := fun q => τ q = 83) rfl (fun _ h9 => h9) fl_X10_83 (fun _ h9 => h9) dX10_splitsAll_117 (fun q_28 eq_28 hq_28 => ?_)
        have w_29 : q_15 = q_28 := Option.some.inj (eq_15.symm.trans ((hF.r h_a (by decide) rfl _).symm.trans eq_28))
        subst w_29
        refine lv_iload hx hb dX10_splitsAll_120 (lv_at hl 2 rfl) ?_
        refine t_lald (n := 64) (i := x8_4) rfl (by decide) hx hb hK hT hq_15 (hT.len hq_15 (by decide)) ⟨by omega, by omega⟩ dX10_splitsAll_122 (fun z_30 ez_30 => ?_)
        refine lv_lload hx hb dX10_splitsAll_123 (lv_at hl 1 rfl) ?_
        refine lv_lsub hx hb dX10_splitsAll_125 ?_
        refine lv_topl (fun z_31 ez_31 => ?_)
        refine lv_aload_n hx hb dX10_splitsAll_126 rfl (lv_at hl 5 rfl) ?_
        refine t_getr cf_11 hx hb hts hown hK hT h_a (k := 34) (P := fun q => τ q = 84) rfl (fun _ h9 => h9) fl_X10_86 (fun _ h9 => h9) dX10_splitsAll_127 (fun q_32 eq_32 hq_32 => ?_)
        have w_33 : q_19 = q_32 := Option.some.inj (eq_19.symm.trans ((hF.r h_a (by decide) rfl _).symm.trans eq_32))
        subst w_33
        refine lv_iload hx hb dX10_splitsAll_130 (lv_at hl 2 rfl) ?_
        refine t_lald (n := 64) (i := x8_4) rfl (by decide) hx hb hK hT hq_19 (hT.len hq_19 (by decide)) ⟨by omega, by omega⟩ dX10_splitsAll_132 (fun z_34 ez_34 => ?_)
        refine lv_ladd hx hb dX10_splitsAll_133 ?_
        refine lv_topl (fun z_35 ez_35 => ?_)
        refine lv_lload hx hb dX10_splitsAll_134 (lv_at hl 0 rfl) ?_
        refine lv_lsub hx hb dX10_splitsAll_136 ?_
        refine lv_topl (fun z_36 ez_36 => ?_)
        refine t_last (n := 64) (i := x8_4) (x := z_36) rfl (by decide) hx hb hK hT hS hq_19 (hT.len hq_19 (by decide)) ⟨by omega, by omega⟩ dX10_splitsAll_137 (fun H locs G_37 eG_37 hT hS => ?_)
        have hF := hF.wL eG_37 hq_19 rfl
        refine lv_aload_n hx hb dX10_splitsAll_138 rfl (lv_at hl 5 rfl) ?_
        refine t_getr cf_11 hx hb hts hown hK hT h_a (k := 33) (P := fun q => τ q = 83) rfl (fun _ h9 => h9) fl_X10_83 (fun _ h9 => h9) dX10_splitsAll_139 (fun q_38 eq_38 hq_38 => ?_)
        have w_39 : q_15 = q_38 := Option.some.inj (eq_15.symm.trans ((hF.r h_a (by decide) rfl _).symm.trans eq_38))
        subst w_39
        refine lv_iload hx hb dX10_splitsAll_142 (lv_at hl 2 rfl) ?_
        refine lv_lconst (v := 0) hx hb dX10_splitsAll_144 (by decide) ?_
        refine t_last (n := 64) (i := x8_4) (x := 0) rfl (by decide) hx hb hK hT hS hq_15 (hT.len hq_15 (by decide)) ⟨by omega, by omega⟩ dX10_splitsAll_145 (fun H locs G_40 eG_40 hT hS => ?_)
        have hF := hF.wL eG_40 hq_15 rfl
        obtain ⟨z_41, ez_41⟩ : ∃ y : Int32, y = x8_4 + 1 := ⟨_, rfl⟩
        have tz_41 : z_41.toInt = x8_4.toInt + 1 := add_t ez_41 (show -2147483648 ≤ x8_4.toInt + 1 by omega) (show x8_4.toInt + 1 < 2147483648 by omega)
        refine lv_iinc (v := z_41) (lv' := [(4, .int z_41), (7, .long r_22), (5, .long r_18), (3, .int x6_3), (2, .int z_3), (0, .ref a), (1, .int v)]) hx hb dX10_splitsAll_146 hl (k := 2) rfl (by rw [ez_41]; rfl) (by decide) rfl (fun ls hl => ?_)
        refine lv_goto (tgt := 56) hx hb dX10_splitsAll_149 (by decide) ?_
        exact ih8 (z_41, G_40) _ _ _ (by show (64 - z_41.toInt).toNat < (64 - x8_4.toInt).toNat; omega) ⟨(by show 0 ≤ z_41.toInt; omega), (by show z_41.toInt ≤ 64; omega), hF, hT, hS, lv_sub hl [0, 3, 4, 5, 6] rfl⟩
  · skip
    have tc_5 : ¬ z_3.toInt ≤ x4_3.toInt := fun h => c_5 ((fa_le _ _).mpr h)
    refine lv_aload_n hx hb dX10_splitsAll_16 rfl (lv_at hl 2 rfl) ?_
    refine t_getr cf_11 hx hb hts hown hK hT h_a (k := 33) (P := fun q => τ q = 83) rfl (fun _ h9 => h9) fl_X10_83 (fun _ h9 => h9) dX10_splitsAll_17 (fun q_42 eq_42 hq_42 => ?_)
    have eq_42 := (hF.r h_a (by decide) rfl _).symm.trans eq_42
    refine lv_iload_n hx hb dX10_splitsAll_20 rfl (lv_at hl 0 rfl) ?_
    refine lv_lconst (v := 0) hx hb dX10_splitsAll_21 (by decide) ?_
    refine t_last (n := 64) (i := x4_3) (x := 0) rfl (by decide) hx hb hK hT hS hq_42 (hT.len hq_42 (by decide)) ⟨by omega, by omega⟩ dX10_splitsAll_22 (fun H locs G_43 eG_43 hT hS => ?_)
    have hF := hF.wL eG_43 hq_42 rfl
    refine lv_aload_n hx hb dX10_splitsAll_23 rfl (lv_at hl 2 rfl) ?_
    refine t_getr cf_11 hx hb hts hown hK hT h_a (k := 34) (P := fun q => τ q = 84) rfl (fun _ h9 => h9) fl_X10_86 (fun _ h9 => h9) dX10_splitsAll_24 (fun q_44 eq_44 hq_44 => ?_)
    have eq_44 := (hF.r h_a (by decide) rfl _).symm.trans eq_44
    refine lv_iload_n hx hb dX10_splitsAll_27 rfl (lv_at hl 0 rfl) ?_
    refine lv_iload_n hx hb dX10_splitsAll_28 rfl (lv_at hl 0 rfl) ?_
    refine lv_if_ne (tgt := 38) hx hb dX10_splitsAll_29 (by decide) (fun c_45 => ?_) (fun c_45 => ?_)
    · skip
      have tc_45 : ¬ x4_3.toInt = 0 := fun h => c_45 ((fa_eq _ _).mpr h)
      refine lv_lconst (v := 0) hx hb dX10_splitsAll_38 (by decide) ?_
      refine t_last (n := 64) (i := x4_3) (x := 0) rfl (by decide) hx hb hK hT hS hq_44 (hT.len hq_44 (by decide)) ⟨by omega, by omega⟩ dX10_splitsAll_39 (fun H locs G_46 eG_46 hT hS => ?_)
      have hF := hF.wL eG_46 hq_44 rfl
      obtain ⟨z_47, ez_47⟩ : ∃ y : Int32, y = x4_3 + 1 := ⟨_, rfl⟩
      have tz_47 : z_47.toInt = x4_3.toInt + 1 := add_t ez_47 (show -2147483648 ≤ x4_3.toInt + 1 by omega) (show x4_3.toInt + 1 < 2147483648 by omega)
      refine lv_iinc (v := z_47) (lv' := [(3, .int z_47), (2, .int z_3), (0, .ref a), (1, .int v)]) hx hb dX10_splitsAll_40 hl (k := 0) rfl (by rw [ez_47]; rfl) (by decide) rfl (fun ls hl => ?_)
      refine lv_goto (tgt := 11) hx hb dX10_splitsAll_43 (by decide) ?_
      exact ih4 (z_47, G_46) _ _ _ (by show (64 - z_47.toInt).toNat < (64 - x4_3.toInt).toNat; omega) ⟨(by show 0 ≤ z_47.toInt; omega), (by show z_47.toInt ≤ 64; omega), hF, hT, hS, lv_sub hl [0, 1, 2, 3] rfl⟩
    · skip
      have tc_45 : x4_3.toInt = 0 := (fa_eq _ _).mp c_45
      refine lv_ldc2 (v := 1000000000000) hx hb hown (hts _ kl_X10_284) dX10_splitsAll_32 ?_
      refine lv_goto (tgt := 39) hx hb dX10_splitsAll_35 (by decide) ?_
      refine t_last (n := 64) (i := x4_3) (x := 1000000000000) rfl (by decide) hx hb hK hT hS hq_44 (hT.len hq_44 (by decide)) ⟨by omega, by omega⟩ dX10_splitsAll_39 (fun H locs G_48 eG_48 hT hS => ?_)
      have hF := hF.wL eG_48 hq_44 rfl
      obtain ⟨z_49, ez_49⟩ : ∃ y : Int32, y = x4_3 + 1 := ⟨_, rfl⟩
      have tz_49 : z_49.toInt = x4_3.toInt + 1 := add_t ez_49 (show -2147483648 ≤ x4_3.toInt + 1 by omega) (show x4_3.toInt + 1 < 2147483648 by omega)
      refine lv_iinc (v := z_49) (lv' := [(3, .int z_49), (2, .int z_3), (0, .ref a), (1, .int v)]) hx hb dX10_splitsAll_40 hl (k := 0) rfl (by rw [ez_49]; rfl) (by decide) rfl (fun ls hl => ?_)
      refine lv_goto (tgt := 11) hx hb dX10_splitsAll_43 (by decide) ?_
      exact ih4 (z_49, G_48) _ _ _ (by show (64 - z_49.toInt).toNat < (64 - x4_3.toInt).toNat; omega) ⟨(by show 0 ≤ z_49.toInt; omega), (by show z_49.toInt ≤ 64; omega), hF, hT, hS, lv_sub hl [0, 1, 2, 3] rfl⟩
set_option maxHeartbeats 4000000 in
set_option maxRecDepth 100000 in
theorem t_X10_sizeOf (l : Launch) (D : va_G) (cy : Nat → ClassId) (base : Nat) (τ : Nat → Nat) (G : Gh) (v : Int32) (r_v : 0 ≤ v.toInt ∧ v.toInt ≤ 63) : MM l yX10_sizeOf cX10_sizeOf 3 (some .int) 0 0 0 D cy [.int v] (PT D cy base τ G) (PuI (fun r => True)) noF := by
  refine MM.of (by decide) (Nat.le_of_ble_eq_true rfl) ?_
  intro p e s m below meth c C hPT ls hl
  obtain ⟨hx, hb, hr, hml, hown, hts, hlocks, hK, hnm⟩ := C
  obtain ⟨hZ, hT⟩ := hPT
  have hS : va_S (RA base) s.heap s.heap [] := va_S.rf
  have hl : lv_has ls 3 [(0, .int v)] := hl
  refine lv_iconst (v := 0) hx hb dX10_sizeOf_0 (by decide) ?_
  refine lv_istore_n (lv' := [(1, .int 0), (0, .int v)]) hx hb dX10_sizeOf_1 rfl hl (by decide) rfl (fun ls hl => ?_)
  refine lv_iload_n hx hb dX10_sizeOf_2 rfl (lv_at hl 1 rfl) ?_
  refine lv_istore_n (lv' := [(2, .int v), (1, .int 0), (0, .int v)]) hx hb dX10_sizeOf_3 rfl hl (by decide) rfl (fun ls hl => ?_)
  refine W.loop (σ := Int32 × Int32) (fun w1 H locs ls => 0 ≤ w1.2.toInt ∧ w1.2.toInt ≤ 63 ∧ H = s.heap ∧ locs = [] ∧ lv_has ls 3 [(1, .int w1.1), (2, .int w1.2), (0, .int v)]) (fun w1 => w1.2.toInt.toNat) ?_ ((0 : Int32), v) _ _ _ ⟨(by show 0 ≤ v.toInt; omega), (by show v.toInt ≤ 63; omega), rfl, rfl, lv_sub hl [1, 0, 2] rfl⟩
  intro w1 H locs ls hI ih1
  obtain ⟨x1_1, x1_2⟩ := w1
  obtain ⟨i1_0, i1_1, rfl, rfl, hl⟩ := hI
  have i1_0 : 0 ≤ x1_2.toInt := i1_0
  have i1_1 : x1_2.toInt ≤ 63 := i1_1
  have hl : lv_has ls 3 [(1, .int x1_1), (2, .int x1_2), (0, .int v)] := hl
  refine lv_iload_n hx hb dX10_sizeOf_4 rfl (lv_at hl 1 rfl) ?_
  refine lv_if_eq (tgt := 20) hx hb dX10_sizeOf_5 (by decide) (fun c_2 => ?_) (fun c_2 => ?_)
  · skip
    have tc_2 : x1_2.toInt = 0 := (fa_eq _ _).mp c_2
    refine lv_iload_n hx hb dX10_sizeOf_20 rfl (lv_at hl 0 rfl) ?_
    exact ret_i hx hb hr hlocks ⟨rfl, _, rfl, trivial⟩ (fun _ h => absurd h List.not_mem_nil) (Nat.le_refl _) (Nat.le_refl _) dX10_sizeOf_21
  · skip
    have tc_2 : ¬ x1_2.toInt = 0 := fun h => c_2 ((fa_eq _ _).mpr h)
    obtain ⟨z_3, ez_3⟩ : ∃ y : Int32, y = x1_1 + 1 := ⟨_, rfl⟩
    refine lv_iinc (v := z_3) (lv' := [(1, .int z_3), (2, .int x1_2), (0, .int v)]) hx hb dX10_sizeOf_8 hl (k := 0) rfl (by rw [ez_3]; rfl) (by decide) rfl (fun ls hl => ?_)
    refine lv_iload_n hx hb dX10_sizeOf_11 rfl (lv_at hl 1 rfl) ?_
    refine lv_iload_n hx hb dX10_sizeOf_12 rfl (lv_at hl 1 rfl) ?_
    refine lv_iconst (v := 1) hx hb dX10_sizeOf_13 (by decide) ?_
    refine lv_isub hx hb dX10_sizeOf_14 ?_
    refine lv_topi (fun z_4 ez_4 => ?_)
    have tz_4 : z_4.toInt = x1_2.toInt - 1 := sub_t ez_4 (show -2147483648 ≤ x1_2.toInt - 1 by omega) (show x1_2.toInt - 1 < 2147483648 by omega)
    refine lv_iand hx hb dX10_sizeOf_15 ?_
    refine lv_topi (fun z_5 ez_5 => ?_)
    have tz_5 : 0 ≤ z_5.toInt ∧ z_5.toInt ≤ z_4.toInt := and_t ez_5 (by omega)
    refine lv_istore_n (lv' := [(2, .int z_5), (1, .int z_3), (0, .int v)]) hx hb dX10_sizeOf_16 rfl hl (by decide) rfl (fun ls hl => ?_)
    refine lv_goto (tgt := 4) hx hb dX10_sizeOf_17 (by decide) ?_
    exact ih1 (z_3, z_5) _ _ _ (by show z_5.toInt.toNat < x1_2.toInt.toNat; omega) ⟨(by show 0 ≤ z_5.toInt; omega), (by show z_5.toInt ≤ 63; omega), rfl, rfl, lv_sub hl [1, 0, 2] rfl⟩
set_option maxHeartbeats 4000000 in
set_option maxRecDepth 100000 in
theorem t_X10_shuts (l : Launch) (D : va_G) (cy : Nat → ClassId) (base : Nat) (τ : Nat → Nat) (G : Gh) (a : Nat) (h_a : τ a = 11) (v0 : Int32) (v1 : Int32) : MM l yX10_shuts cX10_shuts 3 (some .long) 2 0 0 D cy [.ref a, .int v0, .int v1] (PT D cy base τ G) (QT D cy base τ G [11, 79] (fun v g => ∃ r : Int64, v = some (.long r) ∧ (True))) (RA base) := by
  refine MM.of (by decide) (Nat.le_of_ble_eq_true rfl) ?_
  intro p e s m below meth c C hPT ls hl
  obtain ⟨hx, hb, hr, hml, hown, hts, hlocks, hK, hnm⟩ := C
  obtain ⟨hZ, hT⟩ := hPT
  have hS : va_S (RA base) s.heap s.heap [] := va_S.rf
  have hF : Fr τ [11, 79] G G := Fr.rf
  have hl : lv_has ls 3 [(0, .ref a), (1, .int v0), (2, .int v1)] := hl
  refine lv_aload_n hx hb dX10_shuts_0 rfl (lv_at hl 0 rfl) ?_
  refine lv_iconst (v := 0) hx hb dX10_shuts_1 (by decide) ?_
  refine t_puti (x := 0) cf_11 hx hb hts hown hK hT hS h_a (k := 0) rfl trivial fl_X10_111 (fun _ h9 => h9) rfl rfl rfl dX10_shuts_2 (fun H locs G_1 eG_1 hT hS => ?_)
  have hF := hF.wI eG_1 h_a rfl
  refine lv_aload_n hx hb dX10_shuts_5 rfl (lv_at hl 0 rfl) ?_
  refine lv_iload_n hx hb dX10_shuts_6 rfl (lv_at hl 1 rfl) ?_
  refine pu_calli (runV (As := [.int v0]) (rest := []) ⟨hx, hb, hml, hown, hts⟩ (t_X10_isValley l D cy base τ G_1 a h_a v0) sV_X10_297 hK (t_recv cf_11 hK hT h_a) ⟨Nat.le_trans hZ hS.1, hT⟩ ⟨Nat.le_of_ble_eq_true rfl, Nat.le_of_ble_eq_true rfl⟩ rfl hl.1 rfl (Nat.le_of_ble_eq_true rfl) dX10_shuts_7 ⟨Nat.le_of_ble_eq_true rfl, Nat.le_of_ble_eq_true rfl⟩) (fun r_2 hr_2 => ?_)
  have hr_2_c := hr_2
  rcases hr_2_c with hr_2_0 | hr_2_1
  · skip
    obtain ⟨er_2, hr_2_0_f0, hr_2_0_f1⟩ := hr_2_0
    have hr_2_0_f0 : 0 ≤ v0.toInt := hr_2_0_f0
    have hr_2_0_f1 : v0.toInt ≤ 5 := hr_2_0_f1
    subst er_2
    refine W.eq (g2 := F0 m 10 ls [.int 1]) rfl ?_
    refine lv_if_eq (tgt := 27) hx hb dX10_shuts_10 (by decide) (fun c_3 => absurd c_3 (by decide)) (fun _ => ?_)
    refine lv_iload_n hx hb dX10_shuts_13 rfl (lv_at hl 2 rfl) ?_
    refine lv_i2l hx hb dX10_shuts_14 rfl ?_
    refine lv_topl (fun z_4 ez_4 => ?_)
    have tz_4 : z_4.toInt = v1.toInt := by rw [ez_4]; exact wide_t v1
    have az_4 := min_t v1
    have bz_4 := max_t v1
    refine lv_lconst (v := 0) hx hb dX10_shuts_15 (by decide) ?_
    refine lv_aload_n hx hb dX10_shuts_16 rfl (lv_at hl 0 rfl) ?_
    obtain ⟨q_5, eq_5, hq_5⟩ := (show ∃ q, G_1.2.2.1 a 17 = some q ∧ τ q = 67 from hT.rgr h_a (by decide) 17)
    have eq_5 := (hF.r h_a (by decide) rfl _).symm.trans eq_5
    obtain ⟨z_6, ez_6⟩ : ∃ y : Int32, y = G_1.1 q_5 0 := ⟨_, rfl⟩
    have qz_6 : (0 % 4 = 0 → 0 ≤ z_6.toInt ∧ z_6.toInt ≤ 60) := by rw [ez_6]; exact hT.rgi hq_5 (by decide) 0
    have rz_6 : 0 ≤ z_6.toInt ∧ z_6.toInt ≤ 60 := by omega
    have ez_6 : z_6 = G.1 q_5 0 := ez_6.trans (hF.i hq_5 (by decide) rfl _)
    refine pu_calli (runV (As := []) (rest := [.long 0, .long z_4]) ⟨hx, hb, hml, hown, hts⟩ (t_X10_lastDay l D cy base τ G_1 a h_a q_5 hq_5 ((hF.r h_a (by decide) rfl _).trans eq_5) z_6 (ez_6.trans (hF.i hq_5 (by decide) rfl _).symm) ⟨by omega, by omega⟩) sV_X10_278 hK (t_recv cf_11 hK hT h_a) ⟨Nat.le_trans hZ hS.1, hT⟩ ⟨Nat.le_of_ble_eq_true rfl, Nat.le_of_ble_eq_true rfl⟩ rfl hl.1 rfl (Nat.le_of_ble_eq_true rfl) dX10_shuts_17 ⟨Nat.le_of_ble_eq_true rfl, Nat.le_of_ble_eq_true rfl⟩) (fun r_7 hr_7 => ?_)
    have er_7 := hr_7
    have er_7 := er_7.symm
    subst er_7
    refine W.eq (g2 := F0 m 20 ls [.int z_6, .long 0, .long z_4]) rfl ?_
    refine lv_i2l hx hb dX10_shuts_20 rfl ?_
    refine lv_topl (fun z_8 ez_8 => ?_)
    have tz_8 : z_8.toInt = z_6.toInt := by rw [ez_8]; exact wide_t z_6
    refine pu_calli (runS (As := [.long z_4, .long 0, .long z_8]) (rest := []) ⟨hx, hb, hml, hown, hts⟩ (t_X10_in l D cy base τ G_1 z_4 0 z_8) sS_X10_116 hK ⟨Nat.le_trans hZ hS.1, hT⟩ ⟨Nat.le_of_ble_eq_true rfl, Nat.le_of_ble_eq_true rfl⟩ rfl hl.1 rfl (Nat.le_of_ble_eq_true rfl) dX10_shuts_21 ⟨Nat.le_of_ble_eq_true rfl, Nat.le_of_ble_eq_true rfl⟩) (fun r_9 hr_9 => ?_)
    have hr_9_c := hr_9
    rcases hr_9_c with hr_9_0 | hr_9_1
    · skip
      obtain ⟨er_9, hr_9_0_f0, hr_9_0_f1⟩ := hr_9_0
      have hr_9_0_f0 : 0 ≤ z_4.toInt := hr_9_0_f0
      have hr_9_0_f1 : z_4.toInt ≤ z_8.toInt := hr_9_0_f1
      subst er_9
      refine W.eq (g2 := F0 m 24 ls [.int 1]) rfl ?_
      refine lv_if_ne (tgt := 31) hx hb dX10_shuts_24 (by decide) (fun _ => ?_) (fun c_10 => absurd c_10 (by decide))
      refine lv_aload_n hx hb dX10_shuts_31 rfl (lv_at hl 0 rfl) ?_
      refine lv_iload_n hx hb dX10_shuts_32 rfl (lv_at hl 1 rfl) ?_
      refine t_callv (runV (As := [.int v0]) (rest := []) ⟨hx, hb, hml, hown, hts⟩ (t_X10_splits l D cy base τ G_1 a h_a v0 ⟨by omega, by omega⟩) sV_X10_302 hK (t_recv cf_11 hK hT h_a) ⟨Nat.le_trans hZ hS.1, hT⟩ ⟨Nat.le_of_ble_eq_true rfl, Nat.le_of_ble_eq_true rfl⟩ rfl hl.1 rfl (Nat.le_of_ble_eq_true rfl) dX10_shuts_33 ⟨Nat.le_of_ble_eq_true rfl, Nat.le_of_ble_eq_true rfl⟩) hS (fun G_11 H locs hF_11 hr_11 hT hS => ?_)
      have hF := hF.tr hF_11 rfl
      refine lv_aload_n hx hb dX10_shuts_36 rfl (lv_at hl 0 rfl) ?_
      refine t_getr cf_11 hx hb hts hown hK hT h_a (k := 29) (P := fun q => τ q = 79) rfl (fun _ h9 => h9) fl_X10_71 (fun _ h9 => h9) dX10_shuts_37 (fun q_12 eq_12 hq_12 => ?_)
      have eq_12 := (hF.r h_a (by decide) rfl _).symm.trans eq_12
      refine lv_iload_n hx hb dX10_shuts_40 rfl (lv_at hl 2 rfl) ?_
      refine t_lald (n := 61) (i := v1) rfl (by decide) hx hb hK hT hq_12 (hT.len hq_12 (by decide)) ⟨by omega, by omega⟩ dX10_shuts_41 (fun z_13 ez_13 => ?_)
      exact ret_l hx hb hr hlocks ⟨⟨hS.1, hS.2.1⟩, G_11, hF, ⟨_, rfl, trivial⟩, hT⟩ hS.2.2 (Nat.le_of_ble_eq_true rfl) (Nat.le_of_ble_eq_true rfl) dX10_shuts_42
    · skip
      have er_9 := hr_9_1
      subst er_9
      refine W.eq (g2 := F0 m 24 ls [.int 0]) rfl ?_
      refine lv_if_ne (tgt := 31) hx hb dX10_shuts_24 (by decide) (fun c_14 => absurd rfl c_14) (fun _ => ?_)
      refine lv_ldc2 (v := (-2)) hx hb hown (hts _ kl_X10_300) dX10_shuts_27 ?_
      exact ret_l hx hb hr hlocks ⟨⟨hS.1, hS.2.1⟩, G_1, hF, ⟨_, rfl, trivial⟩, hT⟩ hS.2.2 (Nat.le_of_ble_eq_true rfl) (Nat.le_of_ble_eq_true rfl) dX10_shuts_30
  · skip
    have er_2 := hr_2_1
    subst er_2
    refine W.eq (g2 := F0 m 10 ls [.int 0]) rfl ?_
    refine lv_if_eq (tgt := 27) hx hb dX10_shuts_10 (by decide) (fun _ => ?_) (fun c_15 => absurd (by decide) c_15)
    refine lv_ldc2 (v := (-2)) hx hb hown (hts _ kl_X10_300) dX10_shuts_27 ?_
    exact ret_l hx hb hr hlocks ⟨⟨hS.1, hS.2.1⟩, G_1, hF, ⟨_, rfl, trivial⟩, hT⟩ hS.2.2 (Nat.le_of_ble_eq_true rfl) (Nat.le_of_ble_eq_true rfl) dX10_shuts_30
set_option maxHeartbeats 4000000 in
set_option maxRecDepth 100000 in
theorem t_X10_by (l : Launch) (D : va_G) (cy : Nat → ClassId) (base : Nat) (τ : Nat → Nat) (G : Gh) (a : Nat) (h_a : τ a = 11) (v0 : Int32) (v1 : Int32) : MM l yX10_by cX10_by 3 (some .long) 2 0 0 D cy [.ref a, .int v0, .int v1] (PT D cy base τ G) (QT D cy base τ G [11, 79] (fun v g => ∃ r : Int64, v = some (.long r) ∧ (True))) (RA base) := by
  refine MM.of (by decide) (Nat.le_of_ble_eq_true rfl) ?_
  intro p e s m below meth c C hPT ls hl
  obtain ⟨hx, hb, hr, hml, hown, hts, hlocks, hK, hnm⟩ := C
  obtain ⟨hZ, hT⟩ := hPT
  have hS : va_S (RA base) s.heap s.heap [] := va_S.rf
  have hF : Fr τ [11, 79] G G := Fr.rf
  have hl : lv_has ls 3 [(0, .ref a), (1, .int v0), (2, .int v1)] := hl
  refine lv_aload_n hx hb dX10_by_0 rfl (lv_at hl 0 rfl) ?_
  refine lv_iconst (v := 0) hx hb dX10_by_1 (by decide) ?_
  refine t_puti (x := 0) cf_11 hx hb hts hown hK hT hS h_a (k := 0) rfl trivial fl_X10_111 (fun _ h9 => h9) rfl rfl rfl dX10_by_2 (fun H locs G_1 eG_1 hT hS => ?_)
  have hF := hF.wI eG_1 h_a rfl
  refine lv_aload_n hx hb dX10_by_5 rfl (lv_at hl 0 rfl) ?_
  refine lv_iload_n hx hb dX10_by_6 rfl (lv_at hl 1 rfl) ?_
  refine pu_calli (runV (As := [.int v0]) (rest := []) ⟨hx, hb, hml, hown, hts⟩ (t_X10_isValley l D cy base τ G_1 a h_a v0) sV_X10_297 hK (t_recv cf_11 hK hT h_a) ⟨Nat.le_trans hZ hS.1, hT⟩ ⟨Nat.le_of_ble_eq_true rfl, Nat.le_of_ble_eq_true rfl⟩ rfl hl.1 rfl (Nat.le_of_ble_eq_true rfl) dX10_by_7 ⟨Nat.le_of_ble_eq_true rfl, Nat.le_of_ble_eq_true rfl⟩) (fun r_2 hr_2 => ?_)
  have hr_2_c := hr_2
  rcases hr_2_c with hr_2_0 | hr_2_1
  · skip
    obtain ⟨er_2, hr_2_0_f0, hr_2_0_f1⟩ := hr_2_0
    have hr_2_0_f0 : 0 ≤ v0.toInt := hr_2_0_f0
    have hr_2_0_f1 : v0.toInt ≤ 5 := hr_2_0_f1
    subst er_2
    refine W.eq (g2 := F0 m 10 ls [.int 1]) rfl ?_
    refine lv_if_eq (tgt := 21) hx hb dX10_by_10 (by decide) (fun c_3 => absurd c_3 (by decide)) (fun _ => ?_)
    refine lv_aload_n hx hb dX10_by_13 rfl (lv_at hl 0 rfl) ?_
    refine lv_iload_n hx hb dX10_by_14 rfl (lv_at hl 2 rfl) ?_
    refine pu_calli (runV (As := [.int v1]) (rest := []) ⟨hx, hb, hml, hown, hts⟩ (t_X10_isDay l D cy base τ G_1 a h_a v1) sV_X10_305 hK (t_recv cf_11 hK hT h_a) ⟨Nat.le_trans hZ hS.1, hT⟩ ⟨Nat.le_of_ble_eq_true rfl, Nat.le_of_ble_eq_true rfl⟩ rfl hl.1 rfl (Nat.le_of_ble_eq_true rfl) dX10_by_15 ⟨Nat.le_of_ble_eq_true rfl, Nat.le_of_ble_eq_true rfl⟩) (fun r_4 hr_4 => ?_)
    have hr_4_c := hr_4
    rcases hr_4_c with hr_4_0 | hr_4_1
    · skip
      obtain ⟨er_4, hr_4_0_f0, hr_4_0_f1⟩ := hr_4_0
      have hr_4_0_f0 : 1 ≤ v1.toInt := hr_4_0_f0
      have hr_4_0_f1 : v1.toInt ≤ 60 := hr_4_0_f1
      subst er_4
      refine W.eq (g2 := F0 m 18 ls [.int 1]) rfl ?_
      refine lv_if_ne (tgt := 25) hx hb dX10_by_18 (by decide) (fun _ => ?_) (fun c_5 => absurd c_5 (by decide))
      refine lv_aload_n hx hb dX10_by_25 rfl (lv_at hl 0 rfl) ?_
      refine lv_iload_n hx hb dX10_by_26 rfl (lv_at hl 1 rfl) ?_
      refine t_callv (runV (As := [.int v0]) (rest := []) ⟨hx, hb, hml, hown, hts⟩ (t_X10_splits l D cy base τ G_1 a h_a v0 ⟨by omega, by omega⟩) sV_X10_302 hK (t_recv cf_11 hK hT h_a) ⟨Nat.le_trans hZ hS.1, hT⟩ ⟨Nat.le_of_ble_eq_true rfl, Nat.le_of_ble_eq_true rfl⟩ rfl hl.1 rfl (Nat.le_of_ble_eq_true rfl) dX10_by_27 ⟨Nat.le_of_ble_eq_true rfl, Nat.le_of_ble_eq_true rfl⟩) hS (fun G_6 H locs hF_6 hr_6 hT hS => ?_)
      have hF := hF.tr hF_6 rfl
      refine lv_aload_n hx hb dX10_by_30 rfl (lv_at hl 0 rfl) ?_
      refine lv_iload_n hx hb dX10_by_31 rfl (lv_at hl 2 rfl) ?_
      refine pu_calll (runV (As := [.int v1]) (rest := []) ⟨hx, hb, hml, hown, hts⟩ (t_X10_byDay l D cy base τ G_6 a h_a v1 ⟨by omega, by omega⟩) sV_X10_308 hK (t_recv cf_11 hK hT h_a) ⟨Nat.le_trans hZ hS.1, hT⟩ ⟨Nat.le_of_ble_eq_true rfl, Nat.le_of_ble_eq_true rfl⟩ rfl hl.1 rfl (Nat.le_of_ble_eq_true rfl) dX10_by_32 ⟨Nat.le_of_ble_eq_true rfl, Nat.le_of_ble_eq_true rfl⟩) (fun r_7 hr_7 => ?_)
      exact ret_l hx hb hr hlocks ⟨⟨hS.1, hS.2.1⟩, G_6, hF, ⟨_, rfl, trivial⟩, hT⟩ hS.2.2 (Nat.le_of_ble_eq_true rfl) (Nat.le_of_ble_eq_true rfl) dX10_by_35
    · skip
      have er_4 := hr_4_1
      subst er_4
      refine W.eq (g2 := F0 m 18 ls [.int 0]) rfl ?_
      refine lv_if_ne (tgt := 25) hx hb dX10_by_18 (by decide) (fun c_8 => absurd rfl c_8) (fun _ => ?_)
      refine lv_ldc2 (v := (-2)) hx hb hown (hts _ kl_X10_300) dX10_by_21 ?_
      exact ret_l hx hb hr hlocks ⟨⟨hS.1, hS.2.1⟩, G_1, hF, ⟨_, rfl, trivial⟩, hT⟩ hS.2.2 (Nat.le_of_ble_eq_true rfl) (Nat.le_of_ble_eq_true rfl) dX10_by_24
  · skip
    have er_2 := hr_2_1
    subst er_2
    refine W.eq (g2 := F0 m 10 ls [.int 0]) rfl ?_
    refine lv_if_eq (tgt := 21) hx hb dX10_by_10 (by decide) (fun _ => ?_) (fun c_9 => absurd (by decide) c_9)
    refine lv_ldc2 (v := (-2)) hx hb hown (hts _ kl_X10_300) dX10_by_21 ?_
    exact ret_l hx hb hr hlocks ⟨⟨hS.1, hS.2.1⟩, G_1, hF, ⟨_, rfl, trivial⟩, hT⟩ hS.2.2 (Nat.le_of_ble_eq_true rfl) (Nat.le_of_ble_eq_true rfl) dX10_by_24
set_option maxHeartbeats 4000000 in
set_option maxRecDepth 100000 in
theorem t_X10_both (l : Launch) (D : va_G) (cy : Nat → ClassId) (base : Nat) (τ : Nat → Nat) (G : Gh) (a : Nat) (h_a : τ a = 11) (v0 : Int32) (v1 : Int32) (v2 : Int32) (v3 : Int32) : MM l yX10_both cX10_both 5 (some .long) 4 0 0 D cy [.ref a, .int v0, .int v1, .int v2, .int v3] (PT D cy base τ G) (QT D cy base τ G [11, 80, 81, 82] (fun v g => ∃ r : Int64, v = some (.long r) ∧ (True))) (RA base) := by
  refine MM.of (by decide) (Nat.le_of_ble_eq_true rfl) ?_
  intro p e s m below meth c C hPT ls hl
  obtain ⟨hx, hb, hr, hml, hown, hts, hlocks, hK, hnm⟩ := C
  obtain ⟨hZ, hT⟩ := hPT
  have hS : va_S (RA base) s.heap s.heap [] := va_S.rf
  have hF : Fr τ [11, 80, 81, 82] G G := Fr.rf
  have hl : lv_has ls 5 [(0, .ref a), (1, .int v0), (2, .int v1), (3, .int v2), (4, .int v3)] := hl
  refine lv_aload_n hx hb dX10_both_0 rfl (lv_at hl 0 rfl) ?_
  refine lv_iconst (v := 0) hx hb dX10_both_1 (by decide) ?_
  refine t_puti (x := 0) cf_11 hx hb hts hown hK hT hS h_a (k := 0) rfl trivial fl_X10_111 (fun _ h9 => h9) rfl rfl rfl dX10_both_2 (fun H locs G_1 eG_1 hT hS => ?_)
  have hF := hF.wI eG_1 h_a rfl
  refine lv_aload_n hx hb dX10_both_5 rfl (lv_at hl 0 rfl) ?_
  refine lv_iload_n hx hb dX10_both_6 rfl (lv_at hl 1 rfl) ?_
  refine lv_iload_n hx hb dX10_both_7 rfl (lv_at hl 3 rfl) ?_
  refine pu_calli (runV (As := [.int v0, .int v2]) (rest := []) ⟨hx, hb, hml, hown, hts⟩ (t_X10_areTwo l D cy base τ G_1 a h_a v0 v2) sV_X10_323 hK (t_recv cf_11 hK hT h_a) ⟨Nat.le_trans hZ hS.1, hT⟩ ⟨Nat.le_of_ble_eq_true rfl, Nat.le_of_ble_eq_true rfl⟩ rfl hl.1 rfl (Nat.le_of_ble_eq_true rfl) dX10_both_8 ⟨Nat.le_of_ble_eq_true rfl, Nat.le_of_ble_eq_true rfl⟩) (fun r_2 hr_2 => ?_)
  have hr_2_c := hr_2
  rcases hr_2_c with hr_2_0 | hr_2_1
  · skip
    obtain ⟨er_2, hr_2_0_f0, hr_2_0_f1, hr_2_0_f2, hr_2_0_f3⟩ := hr_2_0
    have hr_2_0_f0 : 0 ≤ v0.toInt := hr_2_0_f0
    have hr_2_0_f1 : v0.toInt ≤ 5 := hr_2_0_f1
    have hr_2_0_f2 : 0 ≤ v2.toInt := hr_2_0_f2
    have hr_2_0_f3 : v2.toInt ≤ 5 := hr_2_0_f3
    subst er_2
    refine W.eq (g2 := F0 m 11 ls [.int 1]) rfl ?_
    refine lv_if_eq (tgt := 43) hx hb dX10_both_11 (by decide) (fun c_3 => absurd c_3 (by decide)) (fun _ => ?_)
    refine lv_iload_n hx hb dX10_both_14 rfl (lv_at hl 2 rfl) ?_
    refine lv_i2l hx hb dX10_both_15 rfl ?_
    refine lv_topl (fun z_4 ez_4 => ?_)
    have tz_4 : z_4.toInt = v1.toInt := by rw [ez_4]; exact wide_t v1
    have az_4 := min_t v1
    have bz_4 := max_t v1
    refine lv_lconst (v := 0) hx hb dX10_both_16 (by decide) ?_
    refine lv_aload_n hx hb dX10_both_17 rfl (lv_at hl 0 rfl) ?_
    obtain ⟨q_5, eq_5, hq_5⟩ := (show ∃ q, G_1.2.2.1 a 17 = some q ∧ τ q = 67 from hT.rgr h_a (by decide) 17)
    have eq_5 := (hF.r h_a (by decide) rfl _).symm.trans eq_5
    obtain ⟨z_6, ez_6⟩ : ∃ y : Int32, y = G_1.1 q_5 0 := ⟨_, rfl⟩
    have qz_6 : (0 % 4 = 0 → 0 ≤ z_6.toInt ∧ z_6.toInt ≤ 60) := by rw [ez_6]; exact hT.rgi hq_5 (by decide) 0
    have rz_6 : 0 ≤ z_6.toInt ∧ z_6.toInt ≤ 60 := by omega
    have ez_6 : z_6 = G.1 q_5 0 := ez_6.trans (hF.i hq_5 (by decide) rfl _)
    refine pu_calli (runV (As := []) (rest := [.long 0, .long z_4]) ⟨hx, hb, hml, hown, hts⟩ (t_X10_lastDay l D cy base τ G_1 a h_a q_5 hq_5 ((hF.r h_a (by decide) rfl _).trans eq_5) z_6 (ez_6.trans (hF.i hq_5 (by decide) rfl _).symm) ⟨by omega, by omega⟩) sV_X10_278 hK (t_recv cf_11 hK hT h_a) ⟨Nat.le_trans hZ hS.1, hT⟩ ⟨Nat.le_of_ble_eq_true rfl, Nat.le_of_ble_eq_true rfl⟩ rfl hl.1 rfl (Nat.le_of_ble_eq_true rfl) dX10_both_18 ⟨Nat.le_of_ble_eq_true rfl, Nat.le_of_ble_eq_true rfl⟩) (fun r_7 hr_7 => ?_)
    have er_7 := hr_7
    have er_7 := er_7.symm
    subst er_7
    refine W.eq (g2 := F0 m 21 ls [.int z_6, .long 0, .long z_4]) rfl ?_
    refine lv_i2l hx hb dX10_both_21 rfl ?_
    refine lv_topl (fun z_8 ez_8 => ?_)
    have tz_8 : z_8.toInt = z_6.toInt := by rw [ez_8]; exact wide_t z_6
    refine pu_calli (runS (As := [.long z_4, .long 0, .long z_8]) (rest := []) ⟨hx, hb, hml, hown, hts⟩ (t_X10_in l D cy base τ G_1 z_4 0 z_8) sS_X10_116 hK ⟨Nat.le_trans hZ hS.1, hT⟩ ⟨Nat.le_of_ble_eq_true rfl, Nat.le_of_ble_eq_true rfl⟩ rfl hl.1 rfl (Nat.le_of_ble_eq_true rfl) dX10_both_22 ⟨Nat.le_of_ble_eq_true rfl, Nat.le_of_ble_eq_true rfl⟩) (fun r_9 hr_9 => ?_)
    have hr_9_c := hr_9
    rcases hr_9_c with hr_9_0 | hr_9_1
    · skip
      obtain ⟨er_9, hr_9_0_f0, hr_9_0_f1⟩ := hr_9_0
      have hr_9_0_f0 : 0 ≤ z_4.toInt := hr_9_0_f0
      have hr_9_0_f1 : z_4.toInt ≤ z_8.toInt := hr_9_0_f1
      subst er_9
      refine W.eq (g2 := F0 m 25 ls [.int 1]) rfl ?_
      refine lv_if_eq (tgt := 43) hx hb dX10_both_25 (by decide) (fun c_10 => absurd c_10 (by decide)) (fun _ => ?_)
      refine lv_iload hx hb dX10_both_28 (lv_at hl 4 rfl) ?_
      refine lv_i2l hx hb dX10_both_30 rfl ?_
      refine lv_topl (fun z_11 ez_11 => ?_)
      have tz_11 : z_11.toInt = v3.toInt := by rw [ez_11]; exact wide_t v3
      have az_11 := min_t v3
      have bz_11 := max_t v3
      refine lv_lconst (v := 0) hx hb dX10_both_31 (by decide) ?_
      refine lv_aload_n hx hb dX10_both_32 rfl (lv_at hl 0 rfl) ?_
      refine pu_calli (runV (As := []) (rest := [.long 0, .long z_11]) ⟨hx, hb, hml, hown, hts⟩ (t_X10_lastDay l D cy base τ G_1 a h_a q_5 hq_5 ((hF.r h_a (by decide) rfl _).trans eq_5) z_6 (ez_6.trans (hF.i hq_5 (by decide) rfl _).symm) ⟨by omega, by omega⟩) sV_X10_278 hK (t_recv cf_11 hK hT h_a) ⟨Nat.le_trans hZ hS.1, hT⟩ ⟨Nat.le_of_ble_eq_true rfl, Nat.le_of_ble_eq_true rfl⟩ rfl hl.1 rfl (Nat.le_of_ble_eq_true rfl) dX10_both_33 ⟨Nat.le_of_ble_eq_true rfl, Nat.le_of_ble_eq_true rfl⟩) (fun r_12 hr_12 => ?_)
      have er_12 := hr_12
      have er_12 := er_12.symm
      subst er_12
      refine W.eq (g2 := F0 m 36 ls [.int z_6, .long 0, .long z_11]) rfl ?_
      refine lv_i2l hx hb dX10_both_36 rfl ?_
      refine lv_topl (fun z_13 ez_13 => ?_)
      have tz_13 : z_13.toInt = z_6.toInt := by rw [ez_13]; exact wide_t z_6
      refine pu_calli (runS (As := [.long z_11, .long 0, .long z_13]) (rest := []) ⟨hx, hb, hml, hown, hts⟩ (t_X10_in l D cy base τ G_1 z_11 0 z_13) sS_X10_116 hK ⟨Nat.le_trans hZ hS.1, hT⟩ ⟨Nat.le_of_ble_eq_true rfl, Nat.le_of_ble_eq_true rfl⟩ rfl hl.1 rfl (Nat.le_of_ble_eq_true rfl) dX10_both_37 ⟨Nat.le_of_ble_eq_true rfl, Nat.le_of_ble_eq_true rfl⟩) (fun r_14 hr_14 => ?_)
      have hr_14_c := hr_14
      rcases hr_14_c with hr_14_0 | hr_14_1
      · skip
        obtain ⟨er_14, hr_14_0_f0, hr_14_0_f1⟩ := hr_14_0
        have hr_14_0_f0 : 0 ≤ z_11.toInt := hr_14_0_f0
        have hr_14_0_f1 : z_11.toInt ≤ z_13.toInt := hr_14_0_f1
        subst er_14
        refine W.eq (g2 := F0 m 40 ls [.int 1]) rfl ?_
        refine lv_if_ne (tgt := 47) hx hb dX10_both_40 (by decide) (fun _ => ?_) (fun c_15 => absurd c_15 (by decide))
        refine lv_aload_n hx hb dX10_both_47 rfl (lv_at hl 0 rfl) ?_
        refine lv_iload_n hx hb dX10_both_48 rfl (lv_at hl 1 rfl) ?_
        refine lv_iload_n hx hb dX10_both_49 rfl (lv_at hl 3 rfl) ?_
        refine t_callv (runV (As := [.int v0, .int v2]) (rest := []) ⟨hx, hb, hml, hown, hts⟩ (t_X10_splitsTwo l D cy base τ G_1 a h_a v0 ⟨by omega, by omega⟩ v2 ⟨by omega, by omega⟩) sV_X10_327 hK (t_recv cf_11 hK hT h_a) ⟨Nat.le_trans hZ hS.1, hT⟩ ⟨Nat.le_of_ble_eq_true rfl, Nat.le_of_ble_eq_true rfl⟩ rfl hl.1 rfl (Nat.le_of_ble_eq_true rfl) dX10_both_50 ⟨Nat.le_of_ble_eq_true rfl, Nat.le_of_ble_eq_true rfl⟩) hS (fun G_16 H locs hF_16 hr_16 hT hS => ?_)
        have hF := hF.tr hF_16 rfl
        refine lv_aload_n hx hb dX10_both_53 rfl (lv_at hl 0 rfl) ?_
        refine lv_iload_n hx hb dX10_both_54 rfl (lv_at hl 2 rfl) ?_
        refine lv_iload hx hb dX10_both_55 (lv_at hl 4 rfl) ?_
        refine pu_calll (runV (As := [.int v1, .int v3]) (rest := []) ⟨hx, hb, hml, hown, hts⟩ (t_X10_two l D cy base τ G_16 a h_a v1 ⟨by omega, by omega⟩ v3 ⟨by omega, by omega⟩) sV_X10_330 hK (t_recv cf_11 hK hT h_a) ⟨Nat.le_trans hZ hS.1, hT⟩ ⟨Nat.le_of_ble_eq_true rfl, Nat.le_of_ble_eq_true rfl⟩ rfl hl.1 rfl (Nat.le_of_ble_eq_true rfl) dX10_both_57 ⟨Nat.le_of_ble_eq_true rfl, Nat.le_of_ble_eq_true rfl⟩) (fun r_17 hr_17 => ?_)
        exact ret_l hx hb hr hlocks ⟨⟨hS.1, hS.2.1⟩, G_16, hF, ⟨_, rfl, trivial⟩, hT⟩ hS.2.2 (Nat.le_of_ble_eq_true rfl) (Nat.le_of_ble_eq_true rfl) dX10_both_60
      · skip
        have er_14 := hr_14_1
        subst er_14
        refine W.eq (g2 := F0 m 40 ls [.int 0]) rfl ?_
        refine lv_if_ne (tgt := 47) hx hb dX10_both_40 (by decide) (fun c_18 => absurd rfl c_18) (fun _ => ?_)
        refine lv_ldc2 (v := (-2)) hx hb hown (hts _ kl_X10_300) dX10_both_43 ?_
        exact ret_l hx hb hr hlocks ⟨⟨hS.1, hS.2.1⟩, G_1, hF, ⟨_, rfl, trivial⟩, hT⟩ hS.2.2 (Nat.le_of_ble_eq_true rfl) (Nat.le_of_ble_eq_true rfl) dX10_both_46
    · skip
      have er_9 := hr_9_1
      subst er_9
      refine W.eq (g2 := F0 m 25 ls [.int 0]) rfl ?_
      refine lv_if_eq (tgt := 43) hx hb dX10_both_25 (by decide) (fun _ => ?_) (fun c_19 => absurd (by decide) c_19)
      refine lv_ldc2 (v := (-2)) hx hb hown (hts _ kl_X10_300) dX10_both_43 ?_
      exact ret_l hx hb hr hlocks ⟨⟨hS.1, hS.2.1⟩, G_1, hF, ⟨_, rfl, trivial⟩, hT⟩ hS.2.2 (Nat.le_of_ble_eq_true rfl) (Nat.le_of_ble_eq_true rfl) dX10_both_46
  · skip
    have er_2 := hr_2_1
    subst er_2
    refine W.eq (g2 := F0 m 11 ls [.int 0]) rfl ?_
    refine lv_if_eq (tgt := 43) hx hb dX10_both_11 (by decide) (fun _ => ?_) (fun c_20 => absurd (by decide) c_20)
    refine lv_ldc2 (v := (-2)) hx hb hown (hts _ kl_X10_300) dX10_both_43 ?_
    exact ret_l hx hb hr hlocks ⟨⟨hS.1, hS.2.1⟩, G_1, hF, ⟨_, rfl, trivial⟩, hT⟩ hS.2.2 (Nat.le_of_ble_eq_true rfl) (Nat.le_of_ble_eq_true rfl) dX10_both_46
set_option maxHeartbeats 4000000 in
set_option maxRecDepth 100000 in
theorem t_X10_together (l : Launch) (D : va_G) (cy : Nat → ClassId) (base : Nat) (τ : Nat → Nat) (G : Gh) (a : Nat) (h_a : τ a = 11) (v0 : Int32) (v1 : Int32) : MM l yX10_together cX10_together 6 (some .long) 3 0 0 D cy [.ref a, .int v0, .int v1] (PT D cy base τ G) (QT D cy base τ G [11, 82, 83, 84, 85] (fun v g => ∃ r : Int64, v = some (.long r) ∧ (True))) (RA base) := by
  refine MM.of (by decide) (Nat.le_of_ble_eq_true rfl) ?_
  intro p e s m below meth c C hPT ls hl
  obtain ⟨hx, hb, hr, hml, hown, hts, hlocks, hK, hnm⟩ := C
  obtain ⟨hZ, hT⟩ := hPT
  have hS : va_S (RA base) s.heap s.heap [] := va_S.rf
  have hF : Fr τ [11, 82, 83, 84, 85] G G := Fr.rf
  have hl : lv_has ls 6 [(0, .ref a), (1, .int v0), (2, .int v1)] := hl
  refine lv_aload_n hx hb dX10_together_0 rfl (lv_at hl 0 rfl) ?_
  refine lv_iconst (v := 0) hx hb dX10_together_1 (by decide) ?_
  refine t_puti (x := 0) cf_11 hx hb hts hown hK hT hS h_a (k := 0) rfl trivial fl_X10_111 (fun _ h9 => h9) rfl rfl rfl dX10_together_2 (fun H locs G_1 eG_1 hT hS => ?_)
  have hF := hF.wI eG_1 h_a rfl
  refine lv_aload_n hx hb dX10_together_5 rfl (lv_at hl 0 rfl) ?_
  refine lv_iload_n hx hb dX10_together_6 rfl (lv_at hl 1 rfl) ?_
  refine pu_calli (runV (As := [.int v0]) (rest := []) ⟨hx, hb, hml, hown, hts⟩ (t_X10_isDay l D cy base τ G_1 a h_a v0) sV_X10_305 hK (t_recv cf_11 hK hT h_a) ⟨Nat.le_trans hZ hS.1, hT⟩ ⟨Nat.le_of_ble_eq_true rfl, Nat.le_of_ble_eq_true rfl⟩ rfl hl.1 rfl (Nat.le_of_ble_eq_true rfl) dX10_together_7 ⟨Nat.le_of_ble_eq_true rfl, Nat.le_of_ble_eq_true rfl⟩) (fun r_2 hr_2 => ?_)
  have hr_2_c := hr_2
  rcases hr_2_c with hr_2_0 | hr_2_1
  · skip
    obtain ⟨er_2, hr_2_0_f0, hr_2_0_f1⟩ := hr_2_0
    have hr_2_0_f0 : 1 ≤ v0.toInt := hr_2_0_f0
    have hr_2_0_f1 : v0.toInt ≤ 60 := hr_2_0_f1
    subst er_2
    refine W.eq (g2 := F0 m 10 ls [.int 1]) rfl ?_
    refine lv_if_eq (tgt := 29) hx hb dX10_together_10 (by decide) (fun c_3 => absurd c_3 (by decide)) (fun _ => ?_)
    refine lv_iload_n hx hb dX10_together_13 rfl (lv_at hl 2 rfl) ?_
    refine lv_i2l hx hb dX10_together_14 rfl ?_
    refine lv_topl (fun z_4 ez_4 => ?_)
    have tz_4 : z_4.toInt = v1.toInt := by rw [ez_4]; exact wide_t v1
    have az_4 := min_t v1
    have bz_4 := max_t v1
    refine lv_lconst (v := 0) hx hb dX10_together_15 (by decide) ?_
    refine lv_aload_n hx hb dX10_together_16 rfl (lv_at hl 0 rfl) ?_
    refine t_getr cf_11 hx hb hts hown hK hT h_a (k := 20) (P := fun q => τ q = 70) rfl (fun _ h9 => h9) fl_X10_43 (fun _ h9 => h9) dX10_together_17 (fun q_5 eq_5 hq_5 => ?_)
    have eq_5 := (hF.r h_a (by decide) rfl _).symm.trans eq_5
    refine lv_iconst (v := 0) hx hb dX10_together_20 (by decide) ?_
    refine t_iald (n := 5) (i := 0) rfl (by decide) hx hb hK hT hq_5 (hT.len hq_5 (by decide)) ⟨by decide, by decide⟩ dX10_together_21 (fun z_6 ez_6 rz_6 => ?_)
    have ez_6 : z_6 = G_1.1 q_5 0 := ez_6
    have rz_6 : 0 ≤ z_6.toInt ∧ z_6.toInt ≤ 6 := rz_6
    have ez_6 : z_6 = G.1 q_5 0 := ez_6.trans (hF.i hq_5 (by decide) rfl _)
    refine lv_i2l hx hb dX10_together_22 rfl ?_
    refine lv_topl (fun z_7 ez_7 => ?_)
    have tz_7 : z_7.toInt = z_6.toInt := by rw [ez_7]; exact wide_t z_6
    refine pu_calli (runS (As := [.long z_4, .long 0, .long z_7]) (rest := []) ⟨hx, hb, hml, hown, hts⟩ (t_X10_in l D cy base τ G_1 z_4 0 z_7) sS_X10_116 hK ⟨Nat.le_trans hZ hS.1, hT⟩ ⟨Nat.le_of_ble_eq_true rfl, Nat.le_of_ble_eq_true rfl⟩ rfl hl.1 rfl (Nat.le_of_ble_eq_true rfl) dX10_together_23 ⟨Nat.le_of_ble_eq_true rfl, Nat.le_of_ble_eq_true rfl⟩) (fun r_8 hr_8 => ?_)
    have hr_8_c := hr_8
    rcases hr_8_c with hr_8_0 | hr_8_1
    · skip
      obtain ⟨er_8, hr_8_0_f0, hr_8_0_f1⟩ := hr_8_0
      have hr_8_0_f0 : 0 ≤ z_4.toInt := hr_8_0_f0
      have hr_8_0_f1 : z_4.toInt ≤ z_7.toInt := hr_8_0_f1
      subst er_8
      refine W.eq (g2 := F0 m 26 ls [.int 1]) rfl ?_
      refine lv_if_ne (tgt := 33) hx hb dX10_together_26 (by decide) (fun _ => ?_) (fun c_9 => absurd c_9 (by decide))
      refine lv_aload_n hx hb dX10_together_33 rfl (lv_at hl 0 rfl) ?_
      refine lv_iload_n hx hb dX10_together_34 rfl (lv_at hl 1 rfl) ?_
      refine t_callv (runV (As := [.int v0]) (rest := []) ⟨hx, hb, hml, hown, hts⟩ (t_X10_splitsAll l D cy base τ G_1 a h_a v0 ⟨by omega, by omega⟩) sV_X10_337 hK (t_recv cf_11 hK hT h_a) ⟨Nat.le_trans hZ hS.1, hT⟩ ⟨Nat.le_of_ble_eq_true rfl, Nat.le_of_ble_eq_true rfl⟩ rfl hl.1 rfl (Nat.le_of_ble_eq_true rfl) dX10_together_35 ⟨Nat.le_of_ble_eq_true rfl, Nat.le_of_ble_eq_true rfl⟩) hS (fun G_10 H locs hF_10 hr_10 hT hS => ?_)
      have hF := hF.tr hF_10 rfl
      refine lv_lconst (v := 0) hx hb dX10_together_38 (by decide) ?_
      refine lv_lstore_n (lv' := [(3, .long 0), (0, .ref a), (1, .int v0), (2, .int v1)]) hx hb dX10_together_39 rfl hl (by decide) rfl (fun ls hl => ?_)
      refine lv_iconst (v := 0) hx hb dX10_together_40 (by decide) ?_
      refine lv_istore (lv' := [(5, .int 0), (3, .long 0), (0, .ref a), (1, .int v0), (2, .int v1)]) hx hb dX10_together_41 hl (by decide) rfl (fun ls hl => ?_)
      refine W.loop (σ := Int64 × Int32 × Gh) (fun w11 H locs ls => 0 ≤ w11.2.1.toInt ∧ w11.2.1.toInt ≤ 64 ∧ Fr τ [11, 82, 83, 84, 85] G w11.2.2 ∧ TY D cy base τ w11.2.2 H ∧ va_S (RA base) s.heap H locs ∧ lv_has ls 6 [(3, .long w11.1), (5, .int w11.2.1), (0, .ref a), (1, .int v0), (2, .int v1)]) (fun w11 => (64 - w11.2.1.toInt).toNat) ?_ ((0 : Int64), (0 : Int32), G_10) _ _ _ ⟨(by show 0 ≤ (0 : Int32).toInt; decide), (by show (0 : Int32).toInt ≤ 64; decide), hF, hT, hS, lv_sub hl [1, 0, 2, 3, 4] rfl⟩
      intro w11 H locs ls hI ih11
      obtain ⟨x11_3, x11_5, G_11⟩ := w11
      obtain ⟨i11_0, i11_1, hF, hT, hS, hl⟩ := hI
      have i11_0 : 0 ≤ x11_5.toInt := i11_0
      have i11_1 : x11_5.toInt ≤ 64 := i11_1
      have hF : Fr τ [11, 82, 83, 84, 85] G G_11 := hF
      have hT : TY D cy base τ G_11 H := hT
      have hS : va_S (RA base) s.heap H locs := hS
      have hl : lv_has ls 6 [(3, .long x11_3), (5, .int x11_5), (0, .ref a), (1, .int v0), (2, .int v1)] := hl
      refine lv_iload hx hb dX10_together_43 (lv_at hl 1 rfl) ?_
      refine lv_iconst (v := 1) hx hb dX10_together_45 (by decide) ?_
      refine lv_aload_n hx hb dX10_together_46 rfl (lv_at hl 2 rfl) ?_
      refine t_getr cf_11 hx hb hts hown hK hT h_a (k := 20) (P := fun q => τ q = 70) rfl (fun _ h9 => h9) fl_X10_43 (fun _ h9 => h9) dX10_together_47 (fun q_12 eq_12 hq_12 => ?_)
      have w_13 : q_5 = q_12 := Option.some.inj (eq_5.symm.trans ((hF.r h_a (by decide) rfl _).symm.trans eq_12))
      subst w_13
      refine lv_iconst (v := 0) hx hb dX10_together_50 (by decide) ?_
      refine t_iald (n := 5) (i := 0) rfl (by decide) hx hb hK hT hq_5 (hT.len hq_5 (by decide)) ⟨by decide, by decide⟩ dX10_together_51 (fun z_14 ez_14 rz_14 => ?_)
      have w_15 : z_6 = z_14 := ez_6.trans (ez_14.trans (hF.i hq_5 (by decide) rfl _)).symm
      subst w_15
      refine lv_ishl hx hb dX10_together_52 ?_
      refine lv_topi (fun z_16 ez_16 => ?_)
      have tz_16 : 1 ≤ z_16.toInt ∧ z_16.toInt ≤ 64 := shl6_t ez_16 (by omega) (by omega)
      refine lv_icmp_ge (tgt := 93) hx hb dX10_together_53 (by decide) (fun c_17 => ?_) (fun c_17 => ?_)
      · skip
        have tc_17 : z_16.toInt ≤ x11_5.toInt := (fa_le _ _).mp c_17
        refine lv_lload_n hx hb dX10_together_93 rfl (lv_at hl 0 rfl) ?_
        exact ret_l hx hb hr hlocks ⟨⟨hS.1, hS.2.1⟩, G_11, hF, ⟨_, rfl, trivial⟩, hT⟩ hS.2.2 (Nat.le_of_ble_eq_true rfl) (Nat.le_of_ble_eq_true rfl) dX10_together_94
      · skip
        have tc_17 : ¬ z_16.toInt ≤ x11_5.toInt := fun h => c_17 ((fa_le _ _).mpr h)
        refine lv_lload_n hx hb dX10_together_56 rfl (lv_at hl 0 rfl) ?_
        refine lv_iload hx hb dX10_together_57 (lv_at hl 1 rfl) ?_
        refine pu_calli (runS (As := [.int x11_5]) (rest := [.long x11_3]) ⟨hx, hb, hml, hown, hts⟩ (t_X10_sizeOf l D cy base τ G_11 x11_5 ⟨by omega, by omega⟩) sS_X10_340 hK ⟨Nat.le_trans hZ hS.1, hT⟩ ⟨Nat.le_of_ble_eq_true rfl, Nat.le_of_ble_eq_true rfl⟩ rfl hl.1 rfl (Nat.le_of_ble_eq_true rfl) dX10_together_59 ⟨Nat.le_of_ble_eq_true rfl, Nat.le_of_ble_eq_true rfl⟩) (fun r_18 hr_18 => ?_)
        refine lv_iload_n hx hb dX10_together_62 rfl (lv_at hl 4 rfl) ?_
        refine lv_icmp_ne (tgt := 84) hx hb dX10_together_63 (by decide) (fun c_19 => ?_) (fun c_19 => ?_)
        · skip
          have tc_19 : ¬ r_18.toInt = v1.toInt := fun h => c_19 ((fa_eq _ _).mpr h)
          refine lv_lconst (v := 0) hx hb dX10_together_84 (by decide) ?_
          refine lv_ladd hx hb dX10_together_85 ?_
          refine lv_topl (fun z_20 ez_20 => ?_)
          refine lv_lstore_n (lv' := [(3, .long z_20), (5, .int x11_5), (0, .ref a), (1, .int v0), (2, .int v1)]) hx hb dX10_together_86 rfl hl (by decide) rfl (fun ls hl => ?_)
          obtain ⟨z_21, ez_21⟩ : ∃ y : Int32, y = x11_5 + 1 := ⟨_, rfl⟩
          have tz_21 : z_21.toInt = x11_5.toInt + 1 := add_t ez_21 (show -2147483648 ≤ x11_5.toInt + 1 by omega) (show x11_5.toInt + 1 < 2147483648 by omega)
          refine lv_iinc (v := z_21) (lv' := [(5, .int z_21), (3, .long z_20), (0, .ref a), (1, .int v0), (2, .int v1)]) hx hb dX10_together_87 hl (k := 1) rfl (by rw [ez_21]; rfl) (by decide) rfl (fun ls hl => ?_)
          refine lv_goto (tgt := 43) hx hb dX10_together_90 (by decide) ?_
          exact ih11 (z_20, z_21, G_11) _ _ _ (by show (64 - z_21.toInt).toNat < (64 - x11_5.toInt).toNat; omega) ⟨(by show 0 ≤ z_21.toInt; omega), (by show z_21.toInt ≤ 64; omega), hF, hT, hS, lv_sub hl [1, 0, 2, 3, 4] rfl⟩
        · skip
          have tc_19 : r_18.toInt = v1.toInt := (fa_eq _ _).mp c_19
          refine lv_aload_n hx hb dX10_together_66 rfl (lv_at hl 2 rfl) ?_
          refine t_getr cf_11 hx hb hts hown hK hT h_a (k := 33) (P := fun q => τ q = 83) rfl (fun _ h9 => h9) fl_X10_83 (fun _ h9 => h9) dX10_together_67 (fun q_22 eq_22 hq_22 => ?_)
          have eq_22 := (hF.r h_a (by decide) rfl _).symm.trans eq_22
          refine lv_iload hx hb dX10_together_70 (lv_at hl 1 rfl) ?_
          refine t_lald (n := 64) (i := x11_5) rfl (by decide) hx hb hK hT hq_22 (hT.len hq_22 (by decide)) ⟨by omega, by omega⟩ dX10_together_72 (fun z_23 ez_23 => ?_)
          refine lv_aload_n hx hb dX10_together_73 rfl (lv_at hl 2 rfl) ?_
          refine t_getr cf_11 hx hb hts hown hK hT h_a (k := 34) (P := fun q => τ q = 84) rfl (fun _ h9 => h9) fl_X10_86 (fun _ h9 => h9) dX10_together_74 (fun q_24 eq_24 hq_24 => ?_)
          have eq_24 := (hF.r h_a (by decide) rfl _).symm.trans eq_24
          refine lv_iload hx hb dX10_together_77 (lv_at hl 1 rfl) ?_
          refine t_lald (n := 64) (i := x11_5) rfl (by decide) hx hb hK hT hq_24 (hT.len hq_24 (by decide)) ⟨by omega, by omega⟩ dX10_together_79 (fun z_25 ez_25 => ?_)
          refine lv_ladd hx hb dX10_together_80 ?_
          refine lv_topl (fun z_26 ez_26 => ?_)
          refine lv_goto (tgt := 85) hx hb dX10_together_81 (by decide) ?_
          refine lv_ladd hx hb dX10_together_85 ?_
          refine lv_topl (fun z_27 ez_27 => ?_)
          refine lv_lstore_n (lv' := [(3, .long z_27), (5, .int x11_5), (0, .ref a), (1, .int v0), (2, .int v1)]) hx hb dX10_together_86 rfl hl (by decide) rfl (fun ls hl => ?_)
          obtain ⟨z_28, ez_28⟩ : ∃ y : Int32, y = x11_5 + 1 := ⟨_, rfl⟩
          have tz_28 : z_28.toInt = x11_5.toInt + 1 := add_t ez_28 (show -2147483648 ≤ x11_5.toInt + 1 by omega) (show x11_5.toInt + 1 < 2147483648 by omega)
          refine lv_iinc (v := z_28) (lv' := [(5, .int z_28), (3, .long z_27), (0, .ref a), (1, .int v0), (2, .int v1)]) hx hb dX10_together_87 hl (k := 1) rfl (by rw [ez_28]; rfl) (by decide) rfl (fun ls hl => ?_)
          refine lv_goto (tgt := 43) hx hb dX10_together_90 (by decide) ?_
          exact ih11 (z_27, z_28, G_11) _ _ _ (by show (64 - z_28.toInt).toNat < (64 - x11_5.toInt).toNat; omega) ⟨(by show 0 ≤ z_28.toInt; omega), (by show z_28.toInt ≤ 64; omega), hF, hT, hS, lv_sub hl [1, 0, 2, 3, 4] rfl⟩
    · skip
      have er_8 := hr_8_1
      subst er_8
      refine W.eq (g2 := F0 m 26 ls [.int 0]) rfl ?_
      refine lv_if_ne (tgt := 33) hx hb dX10_together_26 (by decide) (fun c_29 => absurd rfl c_29) (fun _ => ?_)
      refine lv_ldc2 (v := (-2)) hx hb hown (hts _ kl_X10_300) dX10_together_29 ?_
      exact ret_l hx hb hr hlocks ⟨⟨hS.1, hS.2.1⟩, G_1, hF, ⟨_, rfl, trivial⟩, hT⟩ hS.2.2 (Nat.le_of_ble_eq_true rfl) (Nat.le_of_ble_eq_true rfl) dX10_together_32
  · skip
    have er_2 := hr_2_1
    subst er_2
    refine W.eq (g2 := F0 m 10 ls [.int 0]) rfl ?_
    refine lv_if_eq (tgt := 29) hx hb dX10_together_10 (by decide) (fun _ => ?_) (fun c_30 => absurd (by decide) c_30)
    refine lv_ldc2 (v := (-2)) hx hb hown (hts _ kl_X10_300) dX10_together_29 ?_
    exact ret_l hx hb hr hlocks ⟨⟨hS.1, hS.2.1⟩, G_1, hF, ⟨_, rfl, trivial⟩, hT⟩ hS.2.2 (Nat.le_of_ble_eq_true rfl) (Nat.le_of_ble_eq_true rfl) dX10_together_32
set_option maxHeartbeats 4000000 in
set_option maxRecDepth 100000 in
theorem t_X10_set (l : Launch) (D : va_G) (cy : Nat → ClassId) (base : Nat) (τ : Nat → Nat) (G : Gh) (a : Nat) (h_a : τ a = 11) (v0 : Int32) (v1 : Int32) : MM l yX10_set cX10_set 3 (some .long) 3 0 0 D cy [.ref a, .int v0, .int v1] (PT D cy base τ G) (QT D cy base τ G [11, 82, 83, 84, 85] (fun v g => ∃ r : Int64, v = some (.long r) ∧ (True))) (RA base) := by
  refine MM.of (by decide) (Nat.le_of_ble_eq_true rfl) ?_
  intro p e s m below meth c C hPT ls hl
  obtain ⟨hx, hb, hr, hml, hown, hts, hlocks, hK, hnm⟩ := C
  obtain ⟨hZ, hT⟩ := hPT
  have hS : va_S (RA base) s.heap s.heap [] := va_S.rf
  have hF : Fr τ [11, 82, 83, 84, 85] G G := Fr.rf
  have hl : lv_has ls 3 [(0, .ref a), (1, .int v0), (2, .int v1)] := hl
  refine lv_aload_n hx hb dX10_set_0 rfl (lv_at hl 0 rfl) ?_
  refine lv_iconst (v := 0) hx hb dX10_set_1 (by decide) ?_
  refine t_puti (x := 0) cf_11 hx hb hts hown hK hT hS h_a (k := 0) rfl trivial fl_X10_111 (fun _ h9 => h9) rfl rfl rfl dX10_set_2 (fun H locs G_1 eG_1 hT hS => ?_)
  have hF := hF.wI eG_1 h_a rfl
  refine lv_aload_n hx hb dX10_set_5 rfl (lv_at hl 0 rfl) ?_
  refine lv_iload_n hx hb dX10_set_6 rfl (lv_at hl 1 rfl) ?_
  refine pu_calli (runV (As := [.int v0]) (rest := []) ⟨hx, hb, hml, hown, hts⟩ (t_X10_isDay l D cy base τ G_1 a h_a v0) sV_X10_305 hK (t_recv cf_11 hK hT h_a) ⟨Nat.le_trans hZ hS.1, hT⟩ ⟨Nat.le_of_ble_eq_true rfl, Nat.le_of_ble_eq_true rfl⟩ rfl hl.1 rfl (Nat.le_of_ble_eq_true rfl) dX10_set_7 ⟨Nat.le_of_ble_eq_true rfl, Nat.le_of_ble_eq_true rfl⟩) (fun r_2 hr_2 => ?_)
  have hr_2_c := hr_2
  rcases hr_2_c with hr_2_0 | hr_2_1
  · skip
    obtain ⟨er_2, hr_2_0_f0, hr_2_0_f1⟩ := hr_2_0
    have hr_2_0_f0 : 1 ≤ v0.toInt := hr_2_0_f0
    have hr_2_0_f1 : v0.toInt ≤ 60 := hr_2_0_f1
    subst er_2
    refine W.eq (g2 := F0 m 10 ls [.int 1]) rfl ?_
    refine lv_if_eq (tgt := 33) hx hb dX10_set_10 (by decide) (fun c_3 => absurd c_3 (by decide)) (fun _ => ?_)
    refine lv_iload_n hx hb dX10_set_13 rfl (lv_at hl 2 rfl) ?_
    refine lv_i2l hx hb dX10_set_14 rfl ?_
    refine lv_topl (fun z_4 ez_4 => ?_)
    have tz_4 : z_4.toInt = v1.toInt := by rw [ez_4]; exact wide_t v1
    have az_4 := min_t v1
    have bz_4 := max_t v1
    refine lv_lconst (v := 0) hx hb dX10_set_15 (by decide) ?_
    refine lv_iconst (v := 1) hx hb dX10_set_16 (by decide) ?_
    refine lv_aload_n hx hb dX10_set_17 rfl (lv_at hl 0 rfl) ?_
    refine t_getr cf_11 hx hb hts hown hK hT h_a (k := 20) (P := fun q => τ q = 70) rfl (fun _ h9 => h9) fl_X10_43 (fun _ h9 => h9) dX10_set_18 (fun q_5 eq_5 hq_5 => ?_)
    have eq_5 := (hF.r h_a (by decide) rfl _).symm.trans eq_5
    refine lv_iconst (v := 0) hx hb dX10_set_21 (by decide) ?_
    refine t_iald (n := 5) (i := 0) rfl (by decide) hx hb hK hT hq_5 (hT.len hq_5 (by decide)) ⟨by decide, by decide⟩ dX10_set_22 (fun z_6 ez_6 rz_6 => ?_)
    have ez_6 : z_6 = G_1.1 q_5 0 := ez_6
    have rz_6 : 0 ≤ z_6.toInt ∧ z_6.toInt ≤ 6 := rz_6
    have ez_6 : z_6 = G.1 q_5 0 := ez_6.trans (hF.i hq_5 (by decide) rfl _)
    refine lv_ishl hx hb dX10_set_23 ?_
    refine lv_topi (fun z_7 ez_7 => ?_)
    have tz_7 : 1 ≤ z_7.toInt ∧ z_7.toInt ≤ 64 := shl6_t ez_7 (by omega) (by omega)
    refine lv_iconst (v := 1) hx hb dX10_set_24 (by decide) ?_
    refine lv_isub hx hb dX10_set_25 ?_
    refine lv_topi (fun z_8 ez_8 => ?_)
    have tz_8 : z_8.toInt = z_7.toInt - 1 := sub_t ez_8 (show -2147483648 ≤ z_7.toInt - 1 by omega) (show z_7.toInt - 1 < 2147483648 by omega)
    refine lv_i2l hx hb dX10_set_26 rfl ?_
    refine lv_topl (fun z_9 ez_9 => ?_)
    have tz_9 : z_9.toInt = z_8.toInt := by rw [ez_9]; exact wide_t z_8
    refine pu_calli (runS (As := [.long z_4, .long 0, .long z_9]) (rest := []) ⟨hx, hb, hml, hown, hts⟩ (t_X10_in l D cy base τ G_1 z_4 0 z_9) sS_X10_116 hK ⟨Nat.le_trans hZ hS.1, hT⟩ ⟨Nat.le_of_ble_eq_true rfl, Nat.le_of_ble_eq_true rfl⟩ rfl hl.1 rfl (Nat.le_of_ble_eq_true rfl) dX10_set_27 ⟨Nat.le_of_ble_eq_true rfl, Nat.le_of_ble_eq_true rfl⟩) (fun r_10 hr_10 => ?_)
    have hr_10_c := hr_10
    rcases hr_10_c with hr_10_0 | hr_10_1
    · skip
      obtain ⟨er_10, hr_10_0_f0, hr_10_0_f1⟩ := hr_10_0
      have hr_10_0_f0 : 0 ≤ z_4.toInt := hr_10_0_f0
      have hr_10_0_f1 : z_4.toInt ≤ z_9.toInt := hr_10_0_f1
      subst er_10
      refine W.eq (g2 := F0 m 30 ls [.int 1]) rfl ?_
      refine lv_if_ne (tgt := 37) hx hb dX10_set_30 (by decide) (fun _ => ?_) (fun c_11 => absurd c_11 (by decide))
      refine lv_aload_n hx hb dX10_set_37 rfl (lv_at hl 0 rfl) ?_
      refine lv_iload_n hx hb dX10_set_38 rfl (lv_at hl 1 rfl) ?_
      refine t_callv (runV (As := [.int v0]) (rest := []) ⟨hx, hb, hml, hown, hts⟩ (t_X10_splitsAll l D cy base τ G_1 a h_a v0 ⟨by omega, by omega⟩) sV_X10_337 hK (t_recv cf_11 hK hT h_a) ⟨Nat.le_trans hZ hS.1, hT⟩ ⟨Nat.le_of_ble_eq_true rfl, Nat.le_of_ble_eq_true rfl⟩ rfl hl.1 rfl (Nat.le_of_ble_eq_true rfl) dX10_set_39 ⟨Nat.le_of_ble_eq_true rfl, Nat.le_of_ble_eq_true rfl⟩) hS (fun G_12 H locs hF_12 hr_12 hT hS => ?_)
      have hF := hF.tr hF_12 rfl
      refine lv_aload_n hx hb dX10_set_42 rfl (lv_at hl 0 rfl) ?_
      refine t_getr cf_11 hx hb hts hown hK hT h_a (k := 33) (P := fun q => τ q = 83) rfl (fun _ h9 => h9) fl_X10_83 (fun _ h9 => h9) dX10_set_43 (fun q_13 eq_13 hq_13 => ?_)
      have eq_13 := (hF.r h_a (by decide) rfl _).symm.trans eq_13
      refine lv_iload_n hx hb dX10_set_46 rfl (lv_at hl 2 rfl) ?_
      refine t_lald (n := 64) (i := v1) rfl (by decide) hx hb hK hT hq_13 (hT.len hq_13 (by decide)) ⟨by omega, by omega⟩ dX10_set_47 (fun z_14 ez_14 => ?_)
      refine lv_aload_n hx hb dX10_set_48 rfl (lv_at hl 0 rfl) ?_
      refine t_getr cf_11 hx hb hts hown hK hT h_a (k := 34) (P := fun q => τ q = 84) rfl (fun _ h9 => h9) fl_X10_86 (fun _ h9 => h9) dX10_set_49 (fun q_15 eq_15 hq_15 => ?_)
      have eq_15 := (hF.r h_a (by decide) rfl _).symm.trans eq_15
      refine lv_iload_n hx hb dX10_set_52 rfl (lv_at hl 2 rfl) ?_
      refine t_lald (n := 64) (i := v1) rfl (by decide) hx hb hK hT hq_15 (hT.len hq_15 (by decide)) ⟨by omega, by omega⟩ dX10_set_53 (fun z_16 ez_16 => ?_)
      refine lv_ladd hx hb dX10_set_54 ?_
      refine lv_topl (fun z_17 ez_17 => ?_)
      exact ret_l hx hb hr hlocks ⟨⟨hS.1, hS.2.1⟩, G_12, hF, ⟨_, rfl, trivial⟩, hT⟩ hS.2.2 (Nat.le_of_ble_eq_true rfl) (Nat.le_of_ble_eq_true rfl) dX10_set_55
    · skip
      have er_10 := hr_10_1
      subst er_10
      refine W.eq (g2 := F0 m 30 ls [.int 0]) rfl ?_
      refine lv_if_ne (tgt := 37) hx hb dX10_set_30 (by decide) (fun c_18 => absurd rfl c_18) (fun _ => ?_)
      refine lv_ldc2 (v := (-2)) hx hb hown (hts _ kl_X10_300) dX10_set_33 ?_
      exact ret_l hx hb hr hlocks ⟨⟨hS.1, hS.2.1⟩, G_1, hF, ⟨_, rfl, trivial⟩, hT⟩ hS.2.2 (Nat.le_of_ble_eq_true rfl) (Nat.le_of_ble_eq_true rfl) dX10_set_36
  · skip
    have er_2 := hr_2_1
    subst er_2
    refine W.eq (g2 := F0 m 10 ls [.int 0]) rfl ?_
    refine lv_if_eq (tgt := 33) hx hb dX10_set_10 (by decide) (fun _ => ?_) (fun c_19 => absurd (by decide) c_19)
    refine lv_ldc2 (v := (-2)) hx hb hown (hts _ kl_X10_300) dX10_set_33 ?_
    exact ret_l hx hb hr hlocks ⟨⟨hS.1, hS.2.1⟩, G_1, hF, ⟨_, rfl, trivial⟩, hT⟩ hS.2.2 (Nat.le_of_ble_eq_true rfl) (Nat.le_of_ble_eq_true rfl) dX10_set_36
set_option maxHeartbeats 4000000 in
set_option maxRecDepth 100000 in
theorem t_X10_when (l : Launch) (D : va_G) (cy : Nat → ClassId) (base : Nat) (τ : Nat → Nat) (G : Gh) (a : Nat) (h_a : τ a = 11) (v0 : Int32) (v1 : Int32) : MM l yX10_when cX10_when 4 (some .int) 2 0 0 D cy [.ref a, .int v0, .int v1] (PT D cy base τ G) (QT D cy base τ G [11, 79] (fun v g => ∃ r : Int32, v = some (.int r) ∧ (True))) (RA base) := by
  refine MM.of (by decide) (Nat.le_of_ble_eq_true rfl) ?_
  intro p e s m below meth c C hPT ls hl
  obtain ⟨hx, hb, hr, hml, hown, hts, hlocks, hK, hnm⟩ := C
  obtain ⟨hZ, hT⟩ := hPT
  have hS : va_S (RA base) s.heap s.heap [] := va_S.rf
  have hF : Fr τ [11, 79] G G := Fr.rf
  have hl : lv_has ls 4 [(0, .ref a), (1, .int v0), (2, .int v1)] := hl
  refine lv_aload_n hx hb dX10_when_0 rfl (lv_at hl 0 rfl) ?_
  refine lv_iconst (v := 0) hx hb dX10_when_1 (by decide) ?_
  refine t_puti (x := 0) cf_11 hx hb hts hown hK hT hS h_a (k := 0) rfl trivial fl_X10_111 (fun _ h9 => h9) rfl rfl rfl dX10_when_2 (fun H locs G_1 eG_1 hT hS => ?_)
  have hF := hF.wI eG_1 h_a rfl
  refine lv_aload_n hx hb dX10_when_5 rfl (lv_at hl 0 rfl) ?_
  refine lv_iload_n hx hb dX10_when_6 rfl (lv_at hl 1 rfl) ?_
  refine pu_calli (runV (As := [.int v0]) (rest := []) ⟨hx, hb, hml, hown, hts⟩ (t_X10_isValley l D cy base τ G_1 a h_a v0) sV_X10_297 hK (t_recv cf_11 hK hT h_a) ⟨Nat.le_trans hZ hS.1, hT⟩ ⟨Nat.le_of_ble_eq_true rfl, Nat.le_of_ble_eq_true rfl⟩ rfl hl.1 rfl (Nat.le_of_ble_eq_true rfl) dX10_when_7 ⟨Nat.le_of_ble_eq_true rfl, Nat.le_of_ble_eq_true rfl⟩) (fun r_2 hr_2 => ?_)
  have hr_2_c := hr_2
  rcases hr_2_c with hr_2_0 | hr_2_1
  · skip
    obtain ⟨er_2, hr_2_0_f0, hr_2_0_f1⟩ := hr_2_0
    have hr_2_0_f0 : 0 ≤ v0.toInt := hr_2_0_f0
    have hr_2_0_f1 : v0.toInt ≤ 5 := hr_2_0_f1
    subst er_2
    refine W.eq (g2 := F0 m 10 ls [.int 1]) rfl ?_
    refine lv_if_eq (tgt := 25) hx hb dX10_when_10 (by decide) (fun c_3 => absurd c_3 (by decide)) (fun _ => ?_)
    refine lv_iload_n hx hb dX10_when_13 rfl (lv_at hl 2 rfl) ?_
    refine lv_i2l hx hb dX10_when_14 rfl ?_
    refine lv_topl (fun z_4 ez_4 => ?_)
    have tz_4 : z_4.toInt = v1.toInt := by rw [ez_4]; exact wide_t v1
    have az_4 := min_t v1
    have bz_4 := max_t v1
    refine lv_lconst (v := 1) hx hb dX10_when_15 (by decide) ?_
    refine lv_ldc2 (v := 1000) hx hb hown (hts _ kl_X10_343) dX10_when_16 ?_
    refine pu_calli (runS (As := [.long z_4, .long 1, .long 1000]) (rest := []) ⟨hx, hb, hml, hown, hts⟩ (t_X10_in l D cy base τ G_1 z_4 1 1000) sS_X10_116 hK ⟨Nat.le_trans hZ hS.1, hT⟩ ⟨Nat.le_of_ble_eq_true rfl, Nat.le_of_ble_eq_true rfl⟩ rfl hl.1 rfl (Nat.le_of_ble_eq_true rfl) dX10_when_19 ⟨Nat.le_of_ble_eq_true rfl, Nat.le_of_ble_eq_true rfl⟩) (fun r_5 hr_5 => ?_)
    have hr_5_c := hr_5
    rcases hr_5_c with hr_5_0 | hr_5_1
    · skip
      obtain ⟨er_5, hr_5_0_f0, hr_5_0_f1⟩ := hr_5_0
      have hr_5_0_f0 : 1 ≤ z_4.toInt := hr_5_0_f0
      have hr_5_0_f1 : z_4.toInt ≤ 1000 := hr_5_0_f1
      subst er_5
      refine W.eq (g2 := F0 m 22 ls [.int 1]) rfl ?_
      refine lv_if_ne (tgt := 28) hx hb dX10_when_22 (by decide) (fun _ => ?_) (fun c_6 => absurd c_6 (by decide))
      refine lv_aload_n hx hb dX10_when_28 rfl (lv_at hl 0 rfl) ?_
      refine lv_iload_n hx hb dX10_when_29 rfl (lv_at hl 1 rfl) ?_
      refine t_callv (runV (As := [.int v0]) (rest := []) ⟨hx, hb, hml, hown, hts⟩ (t_X10_splits l D cy base τ G_1 a h_a v0 ⟨by omega, by omega⟩) sV_X10_302 hK (t_recv cf_11 hK hT h_a) ⟨Nat.le_trans hZ hS.1, hT⟩ ⟨Nat.le_of_ble_eq_true rfl, Nat.le_of_ble_eq_true rfl⟩ rfl hl.1 rfl (Nat.le_of_ble_eq_true rfl) dX10_when_30 ⟨Nat.le_of_ble_eq_true rfl, Nat.le_of_ble_eq_true rfl⟩) hS (fun G_7 H locs hF_7 hr_7 hT hS => ?_)
      have hF := hF.tr hF_7 rfl
      refine lv_iconst (v := 1) hx hb dX10_when_33 (by decide) ?_
      refine lv_istore_n (lv' := [(3, .int 1), (0, .ref a), (1, .int v0), (2, .int v1)]) hx hb dX10_when_34 rfl hl (by decide) rfl (fun ls hl => ?_)
      refine W.loop (σ := Int32 × Gh) (fun w8 H locs ls => 0 ≤ w8.1.toInt ∧ w8.1.toInt ≤ 61 ∧ Fr τ [11, 79] G w8.2 ∧ TY D cy base τ w8.2 H ∧ va_S (RA base) s.heap H locs ∧ lv_has ls 4 [(3, .int w8.1), (0, .ref a), (1, .int v0), (2, .int v1)]) (fun w8 => (61 - w8.1.toInt).toNat) ?_ ((1 : Int32), G_7) _ _ _ ⟨(by show 0 ≤ (1 : Int32).toInt; decide), (by show (1 : Int32).toInt ≤ 61; decide), hF, hT, hS, lv_sub hl [0, 1, 2, 3] rfl⟩
      intro w8 H locs ls hI ih8
      obtain ⟨x8_3, G_8⟩ := w8
      obtain ⟨i8_0, i8_1, hF, hT, hS, hl⟩ := hI
      have i8_0 : 0 ≤ x8_3.toInt := i8_0
      have i8_1 : x8_3.toInt ≤ 61 := i8_1
      have hF : Fr τ [11, 79] G G_8 := hF
      have hT : TY D cy base τ G_8 H := hT
      have hS : va_S (RA base) s.heap H locs := hS
      have hl : lv_has ls 4 [(3, .int x8_3), (0, .ref a), (1, .int v0), (2, .int v1)] := hl
      refine lv_iload_n hx hb dX10_when_35 rfl (lv_at hl 0 rfl) ?_
      refine lv_aload_n hx hb dX10_when_36 rfl (lv_at hl 1 rfl) ?_
      obtain ⟨q_9, eq_9, hq_9⟩ := (show ∃ q, G_8.2.2.1 a 17 = some q ∧ τ q = 67 from hT.rgr h_a (by decide) 17)
      have eq_9 := (hF.r h_a (by decide) rfl _).symm.trans eq_9
      obtain ⟨z_10, ez_10⟩ : ∃ y : Int32, y = G_8.1 q_9 0 := ⟨_, rfl⟩
      have qz_10 : (0 % 4 = 0 → 0 ≤ z_10.toInt ∧ z_10.toInt ≤ 60) := by rw [ez_10]; exact hT.rgi hq_9 (by decide) 0
      have rz_10 : 0 ≤ z_10.toInt ∧ z_10.toInt ≤ 60 := by omega
      have ez_10 : z_10 = G.1 q_9 0 := ez_10.trans (hF.i hq_9 (by decide) rfl _)
      refine pu_calli (runV (As := []) (rest := [.int x8_3]) ⟨hx, hb, hml, hown, hts⟩ (t_X10_lastDay l D cy base τ G_8 a h_a q_9 hq_9 ((hF.r h_a (by decide) rfl _).trans eq_9) z_10 (ez_10.trans (hF.i hq_9 (by decide) rfl _).symm) ⟨by omega, by omega⟩) sV_X10_278 hK (t_recv cf_11 hK hT h_a) ⟨Nat.le_trans hZ hS.1, hT⟩ ⟨Nat.le_of_ble_eq_true rfl, Nat.le_of_ble_eq_true rfl⟩ rfl hl.1 rfl (Nat.le_of_ble_eq_true rfl) dX10_when_37 ⟨Nat.le_of_ble_eq_true rfl, Nat.le_of_ble_eq_true rfl⟩) (fun r_11 hr_11 => ?_)
      have er_11 := hr_11
      have er_11 := er_11.symm
      subst er_11
      refine W.eq (g2 := F0 m 40 ls [.int z_10, .int x8_3]) rfl ?_
      refine lv_icmp_gt (tgt := 66) hx hb dX10_when_40 (by decide) (fun c_12 => ?_) (fun c_12 => ?_)
      · skip
        have tc_12 : z_10.toInt < x8_3.toInt := (fa_lt _ _).mp c_12
        refine lv_iconst (v := (-1)) hx hb dX10_when_66 (by decide) ?_
        exact ret_i hx hb hr hlocks ⟨⟨hS.1, hS.2.1⟩, G_8, hF, ⟨_, rfl, trivial⟩, hT⟩ hS.2.2 (Nat.le_of_ble_eq_true rfl) (Nat.le_of_ble_eq_true rfl) dX10_when_67
      · skip
        have tc_12 : ¬ z_10.toInt < x8_3.toInt := fun h => c_12 ((fa_lt _ _).mpr h)
        refine lv_aload_n hx hb dX10_when_43 rfl (lv_at hl 1 rfl) ?_
        refine lv_iload_n hx hb dX10_when_44 rfl (lv_at hl 0 rfl) ?_
        refine pu_calll (runV (As := [.int x8_3]) (rest := []) ⟨hx, hb, hml, hown, hts⟩ (t_X10_byDay l D cy base τ G_8 a h_a x8_3 ⟨by omega, by omega⟩) sV_X10_308 hK (t_recv cf_11 hK hT h_a) ⟨Nat.le_trans hZ hS.1, hT⟩ ⟨Nat.le_of_ble_eq_true rfl, Nat.le_of_ble_eq_true rfl⟩ rfl hl.1 rfl (Nat.le_of_ble_eq_true rfl) dX10_when_45 ⟨Nat.le_of_ble_eq_true rfl, Nat.le_of_ble_eq_true rfl⟩) (fun r_13 hr_13 => ?_)
        refine lv_iload_n hx hb dX10_when_48 rfl (lv_at hl 3 rfl) ?_
        refine lv_i2l hx hb dX10_when_49 rfl ?_
        refine lv_topl (fun z_14 ez_14 => ?_)
        have tz_14 : z_14.toInt = v1.toInt := by rw [ez_14]; exact wide_t v1
        refine lv_ldc2 (v := 1000000000) hx hb hown (hts _ kl_X10_345) dX10_when_50 ?_
        refine lv_lmul hx hb dX10_when_53 ?_
        refine lv_topl (fun z_15 ez_15 => ?_)
        have tz_15 : z_15.toInt = z_14.toInt * 1000000000 := mul_t64 ez_15 (show -9223372036854775808 ≤ z_14.toInt * 1000000000 by omega) (show z_14.toInt * 1000000000 < 9223372036854775808 by omega)
        refine W.lcmp hx hb dX10_when_54 ?_
        refine lv_topi (fun z_16 ez_16 => ?_)
        have tz_16 : (z_16.toInt < 0 ↔ r_13.toInt < z_15.toInt) ∧ (0 < z_16.toInt ↔ z_15.toInt < r_13.toInt) ∧ -1 ≤ z_16.toInt ∧ z_16.toInt ≤ 1 := cmp_t ez_16
        refine lv_if_lt (tgt := 60) hx hb dX10_when_55 (by decide) (fun c_17 => ?_) (fun c_17 => ?_)
        · skip
          have tc_17 : z_16.toInt < 0 := (fa_lt _ _).mp c_17
          obtain ⟨z_18, ez_18⟩ : ∃ y : Int32, y = x8_3 + 1 := ⟨_, rfl⟩
          have tz_18 : z_18.toInt = x8_3.toInt + 1 := add_t ez_18 (show -2147483648 ≤ x8_3.toInt + 1 by omega) (show x8_3.toInt + 1 < 2147483648 by omega)
          refine lv_iinc (v := z_18) (lv' := [(3, .int z_18), (0, .ref a), (1, .int v0), (2, .int v1)]) hx hb dX10_when_60 hl (k := 0) rfl (by rw [ez_18]; rfl) (by decide) rfl (fun ls hl => ?_)
          refine lv_goto (tgt := 35) hx hb dX10_when_63 (by decide) ?_
          exact ih8 (z_18, G_8) _ _ _ (by show (61 - z_18.toInt).toNat < (61 - x8_3.toInt).toNat; omega) ⟨(by show 0 ≤ z_18.toInt; omega), (by show z_18.toInt ≤ 61; omega), hF, hT, hS, lv_sub hl [0, 1, 2, 3] rfl⟩
        · skip
          have tc_17 : ¬ z_16.toInt < 0 := fun h => c_17 ((fa_lt _ _).mpr h)
          refine lv_iload_n hx hb dX10_when_58 rfl (lv_at hl 0 rfl) ?_
          exact ret_i hx hb hr hlocks ⟨⟨hS.1, hS.2.1⟩, G_8, hF, ⟨_, rfl, trivial⟩, hT⟩ hS.2.2 (Nat.le_of_ble_eq_true rfl) (Nat.le_of_ble_eq_true rfl) dX10_when_59
    · skip
      have er_5 := hr_5_1
      subst er_5
      refine W.eq (g2 := F0 m 22 ls [.int 0]) rfl ?_
      refine lv_if_ne (tgt := 28) hx hb dX10_when_22 (by decide) (fun c_19 => absurd rfl c_19) (fun _ => ?_)
      refine lv_bipush (v := (-2)) hx hb dX10_when_25 (by decide) ?_
      exact ret_i hx hb hr hlocks ⟨⟨hS.1, hS.2.1⟩, G_1, hF, ⟨_, rfl, trivial⟩, hT⟩ hS.2.2 (Nat.le_of_ble_eq_true rfl) (Nat.le_of_ble_eq_true rfl) dX10_when_27
  · skip
    have er_2 := hr_2_1
    subst er_2
    refine W.eq (g2 := F0 m 10 ls [.int 0]) rfl ?_
    refine lv_if_eq (tgt := 25) hx hb dX10_when_10 (by decide) (fun _ => ?_) (fun c_20 => absurd (by decide) c_20)
    refine lv_bipush (v := (-2)) hx hb dX10_when_25 (by decide) ?_
    exact ret_i hx hb hr hlocks ⟨⟨hS.1, hS.2.1⟩, G_1, hF, ⟨_, rfl, trivial⟩, hT⟩ hS.2.2 (Nat.le_of_ble_eq_true rfl) (Nat.le_of_ble_eq_true rfl) dX10_when_27
set_option maxHeartbeats 4000000 in
set_option maxRecDepth 100000 in
theorem t_X10_wants (l : Launch) (D : va_G) (cy : Nat → ClassId) (base : Nat) (τ : Nat → Nat) (G : Gh) (a : Nat) (h_a : τ a = 11) (v0 : Int32) (v1 : Int32) (v2 : Int32) : MM l yX10_wants cX10_wants 4 (some .int) 2 0 0 D cy [.ref a, .int v0, .int v1, .int v2] (PT D cy base τ G) (QT D cy base τ G [11] (fun v g => ∃ r : Int32, v = some (.int r) ∧ (True))) (RA base) := by
  refine MM.of (by decide) (Nat.le_of_ble_eq_true rfl) ?_
  intro p e s m below meth c C hPT ls hl
  obtain ⟨hx, hb, hr, hml, hown, hts, hlocks, hK, hnm⟩ := C
  obtain ⟨hZ, hT⟩ := hPT
  have hS : va_S (RA base) s.heap s.heap [] := va_S.rf
  have hF : Fr τ [11] G G := Fr.rf
  have hl : lv_has ls 4 [(0, .ref a), (1, .int v0), (2, .int v1), (3, .int v2)] := hl
  refine lv_aload_n hx hb dX10_wants_0 rfl (lv_at hl 0 rfl) ?_
  refine lv_iconst (v := 0) hx hb dX10_wants_1 (by decide) ?_
  refine t_puti (x := 0) cf_11 hx hb hts hown hK hT hS h_a (k := 0) rfl trivial fl_X10_111 (fun _ h9 => h9) rfl rfl rfl dX10_wants_2 (fun H locs G_1 eG_1 hT hS => ?_)
  have hF := hF.wI eG_1 h_a rfl
  refine lv_aload_n hx hb dX10_wants_5 rfl (lv_at hl 0 rfl) ?_
  refine lv_iload_n hx hb dX10_wants_6 rfl (lv_at hl 1 rfl) ?_
  refine pu_calli (runV (As := [.int v0]) (rest := []) ⟨hx, hb, hml, hown, hts⟩ (t_X10_isValley l D cy base τ G_1 a h_a v0) sV_X10_297 hK (t_recv cf_11 hK hT h_a) ⟨Nat.le_trans hZ hS.1, hT⟩ ⟨Nat.le_of_ble_eq_true rfl, Nat.le_of_ble_eq_true rfl⟩ rfl hl.1 rfl (Nat.le_of_ble_eq_true rfl) dX10_wants_7 ⟨Nat.le_of_ble_eq_true rfl, Nat.le_of_ble_eq_true rfl⟩) (fun r_2 hr_2 => ?_)
  have hr_2_c := hr_2
  rcases hr_2_c with hr_2_0 | hr_2_1
  · skip
    obtain ⟨er_2, hr_2_0_f0, hr_2_0_f1⟩ := hr_2_0
    have hr_2_0_f0 : 0 ≤ v0.toInt := hr_2_0_f0
    have hr_2_0_f1 : v0.toInt ≤ 5 := hr_2_0_f1
    subst er_2
    refine W.eq (g2 := F0 m 10 ls [.int 1]) rfl ?_
    refine lv_if_eq (tgt := 45) hx hb dX10_wants_10 (by decide) (fun c_3 => absurd c_3 (by decide)) (fun _ => ?_)
    refine lv_aload_n hx hb dX10_wants_13 rfl (lv_at hl 0 rfl) ?_
    refine lv_iload_n hx hb dX10_wants_14 rfl (lv_at hl 2 rfl) ?_
    refine pu_calli (runV (As := [.int v1]) (rest := []) ⟨hx, hb, hml, hown, hts⟩ (t_X10_isThing l D cy base τ G_1 a h_a v1) sV_X10_350 hK (t_recv cf_11 hK hT h_a) ⟨Nat.le_trans hZ hS.1, hT⟩ ⟨Nat.le_of_ble_eq_true rfl, Nat.le_of_ble_eq_true rfl⟩ rfl hl.1 rfl (Nat.le_of_ble_eq_true rfl) dX10_wants_15 ⟨Nat.le_of_ble_eq_true rfl, Nat.le_of_ble_eq_true rfl⟩) (fun r_4 hr_4 => ?_)
    have hr_4_c := hr_4
    rcases hr_4_c with hr_4_0 | hr_4_1
    · skip
      obtain ⟨er_4, hr_4_0_f0, hr_4_0_f1⟩ := hr_4_0
      have hr_4_0_f0 : 0 ≤ v1.toInt := hr_4_0_f0
      have hr_4_0_f1 : v1.toInt ≤ 2 := hr_4_0_f1
      subst er_4
      refine W.eq (g2 := F0 m 18 ls [.int 1]) rfl ?_
      refine lv_if_eq (tgt := 45) hx hb dX10_wants_18 (by decide) (fun c_5 => absurd c_5 (by decide)) (fun _ => ?_)
      refine lv_iload_n hx hb dX10_wants_21 rfl (lv_at hl 3 rfl) ?_
      refine lv_i2l hx hb dX10_wants_22 rfl ?_
      refine lv_topl (fun z_6 ez_6 => ?_)
      have tz_6 : z_6.toInt = v2.toInt := by rw [ez_6]; exact wide_t v2
      have az_6 := min_t v2
      have bz_6 := max_t v2
      refine lv_lconst (v := 0) hx hb dX10_wants_23 (by decide) ?_
      refine lv_aload_n hx hb dX10_wants_24 rfl (lv_at hl 0 rfl) ?_
      obtain ⟨q_7, eq_7, hq_7⟩ := (show ∃ q, G_1.2.2.1 a 17 = some q ∧ τ q = 67 from hT.rgr h_a (by decide) 17)
      have eq_7 := (hF.r h_a (by decide) rfl _).symm.trans eq_7
      obtain ⟨z_8, ez_8⟩ : ∃ y : Int32, y = G_1.1 q_7 0 := ⟨_, rfl⟩
      have qz_8 : (0 % 4 = 0 → 0 ≤ z_8.toInt ∧ z_8.toInt ≤ 60) := by rw [ez_8]; exact hT.rgi hq_7 (by decide) 0
      have rz_8 : 0 ≤ z_8.toInt ∧ z_8.toInt ≤ 60 := by omega
      have ez_8 : z_8 = G.1 q_7 0 := ez_8.trans (hF.i hq_7 (by decide) rfl _)
      refine pu_calli (runV (As := []) (rest := [.long 0, .long z_6]) ⟨hx, hb, hml, hown, hts⟩ (t_X10_lastDay l D cy base τ G_1 a h_a q_7 hq_7 ((hF.r h_a (by decide) rfl _).trans eq_7) z_8 (ez_8.trans (hF.i hq_7 (by decide) rfl _).symm) ⟨by omega, by omega⟩) sV_X10_278 hK (t_recv cf_11 hK hT h_a) ⟨Nat.le_trans hZ hS.1, hT⟩ ⟨Nat.le_of_ble_eq_true rfl, Nat.le_of_ble_eq_true rfl⟩ rfl hl.1 rfl (Nat.le_of_ble_eq_true rfl) dX10_wants_25 ⟨Nat.le_of_ble_eq_true rfl, Nat.le_of_ble_eq_true rfl⟩) (fun r_9 hr_9 => ?_)
      have er_9 := hr_9
      have er_9 := er_9.symm
      subst er_9
      refine W.eq (g2 := F0 m 28 ls [.int z_8, .long 0, .long z_6]) rfl ?_
      refine lv_i2l hx hb dX10_wants_28 rfl ?_
      refine lv_topl (fun z_10 ez_10 => ?_)
      have tz_10 : z_10.toInt = z_8.toInt := by rw [ez_10]; exact wide_t z_8
      refine pu_calli (runS (As := [.long z_6, .long 0, .long z_10]) (rest := []) ⟨hx, hb, hml, hown, hts⟩ (t_X10_in l D cy base τ G_1 z_6 0 z_10) sS_X10_116 hK ⟨Nat.le_trans hZ hS.1, hT⟩ ⟨Nat.le_of_ble_eq_true rfl, Nat.le_of_ble_eq_true rfl⟩ rfl hl.1 rfl (Nat.le_of_ble_eq_true rfl) dX10_wants_29 ⟨Nat.le_of_ble_eq_true rfl, Nat.le_of_ble_eq_true rfl⟩) (fun r_11 hr_11 => ?_)
      have hr_11_c := hr_11
      rcases hr_11_c with hr_11_0 | hr_11_1
      · skip
        obtain ⟨er_11, hr_11_0_f0, hr_11_0_f1⟩ := hr_11_0
        have hr_11_0_f0 : 0 ≤ z_6.toInt := hr_11_0_f0
        have hr_11_0_f1 : z_6.toInt ≤ z_10.toInt := hr_11_0_f1
        subst er_11
        refine W.eq (g2 := F0 m 32 ls [.int 1]) rfl ?_
        refine lv_if_eq (tgt := 45) hx hb dX10_wants_32 (by decide) (fun c_12 => absurd c_12 (by decide)) (fun _ => ?_)
        refine lv_aload_n hx hb dX10_wants_35 rfl (lv_at hl 0 rfl) ?_
        refine lv_iload_n hx hb dX10_wants_36 rfl (lv_at hl 1 rfl) ?_
        refine lv_iload_n hx hb dX10_wants_37 rfl (lv_at hl 2 rfl) ?_
        refine lv_iload_n hx hb dX10_wants_38 rfl (lv_at hl 3 rfl) ?_
        refine pu_calli (runV (As := [.int v0, .int v1, .int v2]) (rest := []) ⟨hx, hb, hml, hown, hts⟩ (t_X10_wantsOf l D cy base τ G_1 a h_a v0 ⟨by omega, by omega⟩ v1 ⟨by omega, by omega⟩ v2) sV_X10_353 hK (t_recv cf_11 hK hT h_a) ⟨Nat.le_trans hZ hS.1, hT⟩ ⟨Nat.le_of_ble_eq_true rfl, Nat.le_of_ble_eq_true rfl⟩ rfl hl.1 rfl (Nat.le_of_ble_eq_true rfl) dX10_wants_39 ⟨Nat.le_of_ble_eq_true rfl, Nat.le_of_ble_eq_true rfl⟩) (fun r_13 hr_13 => ?_)
        refine lv_goto (tgt := 47) hx hb dX10_wants_42 (by decide) ?_
        exact ret_i hx hb hr hlocks ⟨⟨hS.1, hS.2.1⟩, G_1, hF, ⟨_, rfl, trivial⟩, hT⟩ hS.2.2 (Nat.le_of_ble_eq_true rfl) (Nat.le_of_ble_eq_true rfl) dX10_wants_47
      · skip
        have er_11 := hr_11_1
        subst er_11
        refine W.eq (g2 := F0 m 32 ls [.int 0]) rfl ?_
        refine lv_if_eq (tgt := 45) hx hb dX10_wants_32 (by decide) (fun _ => ?_) (fun c_14 => absurd (by decide) c_14)
        refine lv_bipush (v := (-2)) hx hb dX10_wants_45 (by decide) ?_
        exact ret_i hx hb hr hlocks ⟨⟨hS.1, hS.2.1⟩, G_1, hF, ⟨_, rfl, trivial⟩, hT⟩ hS.2.2 (Nat.le_of_ble_eq_true rfl) (Nat.le_of_ble_eq_true rfl) dX10_wants_47
    · skip
      have er_4 := hr_4_1
      subst er_4
      refine W.eq (g2 := F0 m 18 ls [.int 0]) rfl ?_
      refine lv_if_eq (tgt := 45) hx hb dX10_wants_18 (by decide) (fun _ => ?_) (fun c_15 => absurd (by decide) c_15)
      refine lv_bipush (v := (-2)) hx hb dX10_wants_45 (by decide) ?_
      exact ret_i hx hb hr hlocks ⟨⟨hS.1, hS.2.1⟩, G_1, hF, ⟨_, rfl, trivial⟩, hT⟩ hS.2.2 (Nat.le_of_ble_eq_true rfl) (Nat.le_of_ble_eq_true rfl) dX10_wants_47
  · skip
    have er_2 := hr_2_1
    subst er_2
    refine W.eq (g2 := F0 m 10 ls [.int 0]) rfl ?_
    refine lv_if_eq (tgt := 45) hx hb dX10_wants_10 (by decide) (fun _ => ?_) (fun c_16 => absurd (by decide) c_16)
    refine lv_bipush (v := (-2)) hx hb dX10_wants_45 (by decide) ?_
    exact ret_i hx hb hr hlocks ⟨⟨hS.1, hS.2.1⟩, G_1, hF, ⟨_, rfl, trivial⟩, hT⟩ hS.2.2 (Nat.le_of_ble_eq_true rfl) (Nat.le_of_ble_eq_true rfl) dX10_wants_47
