theorem dX2_hasValley_0 : decode cX2_hasValley 0 = .ok (.iload_n 1, 1) := by decide +kernel
theorem dX2_hasValley_1 : decode cX2_hasValley 1 = .ok (.ifCond .lt 15, 3) := by decide +kernel
theorem dX2_hasValley_16 : decode cX2_hasValley 16 = .ok (.iconst 0, 1) := by decide +kernel
theorem dX2_hasValley_17 : decode cX2_hasValley 17 = .ok (.ireturn, 1) := by decide +kernel
theorem dX2_hasValley_4 : decode cX2_hasValley 4 = .ok (.iload_n 1, 1) := by decide +kernel
theorem dX2_hasValley_5 : decode cX2_hasValley 5 = .ok (.aload_n 0, 1) := by decide +kernel
theorem dX2_hasValley_6 : decode cX2_hasValley 6 = .ok (.getfield 40, 3) := by decide +kernel
theorem dX2_hasValley_9 : decode cX2_hasValley 9 = .ok (.if_icmp .ge 7, 3) := by decide +kernel
theorem dX2_hasValley_12 : decode cX2_hasValley 12 = .ok (.iconst 1, 1) := by decide +kernel
theorem dX2_hasValley_13 : decode cX2_hasValley 13 = .ok (.goto 4, 3) := by decide +kernel
theorem dX2_hasThing_0 : decode cX2_hasThing 0 = .ok (.iload_n 1, 1) := by decide +kernel
theorem dX2_hasThing_1 : decode cX2_hasThing 1 = .ok (.ifCond .lt 15, 3) := by decide +kernel
theorem dX2_hasThing_16 : decode cX2_hasThing 16 = .ok (.iconst 0, 1) := by decide +kernel
theorem dX2_hasThing_17 : decode cX2_hasThing 17 = .ok (.ireturn, 1) := by decide +kernel
theorem dX2_hasThing_4 : decode cX2_hasThing 4 = .ok (.iload_n 1, 1) := by decide +kernel
theorem dX2_hasThing_5 : decode cX2_hasThing 5 = .ok (.aload_n 0, 1) := by decide +kernel
theorem dX2_hasThing_6 : decode cX2_hasThing 6 = .ok (.getfield 47, 3) := by decide +kernel
theorem dX2_hasThing_9 : decode cX2_hasThing 9 = .ok (.if_icmp .ge 7, 3) := by decide +kernel
theorem dX2_hasThing_12 : decode cX2_hasThing 12 = .ok (.iconst 1, 1) := by decide +kernel
theorem dX2_hasThing_13 : decode cX2_hasThing 13 = .ok (.goto 4, 3) := by decide +kernel
theorem dX2_hasTwo_0 : decode cX2_hasTwo 0 = .ok (.aload_n 0, 1) := by decide +kernel
theorem dX2_hasTwo_1 : decode cX2_hasTwo 1 = .ok (.iload_n 1, 1) := by decide +kernel
theorem dX2_hasTwo_2 : decode cX2_hasTwo 2 = .ok (.invokevirtual 43, 3) := by decide +kernel
theorem dX2_hasTwo_5 : decode cX2_hasTwo 5 = .ok (.ifCond .eq 20, 3) := by decide +kernel
theorem dX2_hasTwo_8 : decode cX2_hasTwo 8 = .ok (.aload_n 0, 1) := by decide +kernel
theorem dX2_hasTwo_9 : decode cX2_hasTwo 9 = .ok (.iload_n 2, 1) := by decide +kernel
theorem dX2_hasTwo_10 : decode cX2_hasTwo 10 = .ok (.invokevirtual 43, 3) := by decide +kernel
theorem dX2_hasTwo_13 : decode cX2_hasTwo 13 = .ok (.ifCond .eq 12, 3) := by decide +kernel
theorem dX2_hasTwo_16 : decode cX2_hasTwo 16 = .ok (.iload_n 1, 1) := by decide +kernel
theorem dX2_hasTwo_17 : decode cX2_hasTwo 17 = .ok (.iload_n 2, 1) := by decide +kernel
theorem dX2_hasTwo_18 : decode cX2_hasTwo 18 = .ok (.if_icmp .eq 7, 3) := by decide +kernel
theorem dX2_hasTwo_25 : decode cX2_hasTwo 25 = .ok (.iconst 0, 1) := by decide +kernel
theorem dX2_hasTwo_26 : decode cX2_hasTwo 26 = .ok (.ireturn, 1) := by decide +kernel
theorem dX2_hasTwo_21 : decode cX2_hasTwo 21 = .ok (.iconst 1, 1) := by decide +kernel
theorem dX2_hasTwo_22 : decode cX2_hasTwo 22 = .ok (.goto 4, 3) := by decide +kernel
theorem dX2_hasStore_0 : decode cX2_hasStore 0 = .ok (.aload_n 0, 1) := by decide +kernel
theorem dX2_hasStore_1 : decode cX2_hasStore 1 = .ok (.iload_n 1, 1) := by decide +kernel
theorem dX2_hasStore_2 : decode cX2_hasStore 2 = .ok (.invokevirtual 43, 3) := by decide +kernel
theorem dX2_hasStore_5 : decode cX2_hasStore 5 = .ok (.ifCond .eq 15, 3) := by decide +kernel
theorem dX2_hasStore_8 : decode cX2_hasStore 8 = .ok (.aload_n 0, 1) := by decide +kernel
theorem dX2_hasStore_9 : decode cX2_hasStore 9 = .ok (.iload_n 2, 1) := by decide +kernel
theorem dX2_hasStore_10 : decode cX2_hasStore 10 = .ok (.invokevirtual 50, 3) := by decide +kernel
theorem dX2_hasStore_13 : decode cX2_hasStore 13 = .ok (.ifCond .eq 7, 3) := by decide +kernel
theorem dX2_hasStore_16 : decode cX2_hasStore 16 = .ok (.iconst 1, 1) := by decide +kernel
theorem dX2_hasStore_17 : decode cX2_hasStore 17 = .ok (.goto 4, 3) := by decide +kernel
theorem dX2_hasStore_21 : decode cX2_hasStore 21 = .ok (.ireturn, 1) := by decide +kernel
theorem dX2_hasStore_20 : decode cX2_hasStore 20 = .ok (.iconst 0, 1) := by decide +kernel
theorem dX2_hasDay_0 : decode cX2_hasDay 0 = .ok (.iload_n 1, 1) := by decide +kernel
theorem dX2_hasDay_1 : decode cX2_hasDay 1 = .ok (.iconst 1, 1) := by decide +kernel
theorem dX2_hasDay_2 : decode cX2_hasDay 2 = .ok (.if_icmp .lt 15, 3) := by decide +kernel
theorem dX2_hasDay_17 : decode cX2_hasDay 17 = .ok (.iconst 0, 1) := by decide +kernel
theorem dX2_hasDay_18 : decode cX2_hasDay 18 = .ok (.ireturn, 1) := by decide +kernel
theorem dX2_hasDay_5 : decode cX2_hasDay 5 = .ok (.iload_n 1, 1) := by decide +kernel
theorem dX2_hasDay_6 : decode cX2_hasDay 6 = .ok (.aload_n 0, 1) := by decide +kernel
theorem dX2_hasDay_7 : decode cX2_hasDay 7 = .ok (.getfield 53, 3) := by decide +kernel
theorem dX2_hasDay_10 : decode cX2_hasDay 10 = .ok (.if_icmp .gt 7, 3) := by decide +kernel
theorem dX2_hasDay_13 : decode cX2_hasDay 13 = .ok (.iconst 1, 1) := by decide +kernel
theorem dX2_hasDay_14 : decode cX2_hasDay 14 = .ok (.goto 4, 3) := by decide +kernel
theorem dX2_hasDayOrNever_0 : decode cX2_hasDayOrNever 0 = .ok (.iload_n 1, 1) := by decide +kernel
theorem dX2_hasDayOrNever_1 : decode cX2_hasDayOrNever 1 = .ok (.ifCond .lt 15, 3) := by decide +kernel
theorem dX2_hasDayOrNever_16 : decode cX2_hasDayOrNever 16 = .ok (.iconst 0, 1) := by decide +kernel
theorem dX2_hasDayOrNever_17 : decode cX2_hasDayOrNever 17 = .ok (.ireturn, 1) := by decide +kernel
theorem dX2_hasDayOrNever_4 : decode cX2_hasDayOrNever 4 = .ok (.iload_n 1, 1) := by decide +kernel
theorem dX2_hasDayOrNever_5 : decode cX2_hasDayOrNever 5 = .ok (.aload_n 0, 1) := by decide +kernel
theorem dX2_hasDayOrNever_6 : decode cX2_hasDayOrNever 6 = .ok (.getfield 53, 3) := by decide +kernel
theorem dX2_hasDayOrNever_9 : decode cX2_hasDayOrNever 9 = .ok (.if_icmp .gt 7, 3) := by decide +kernel
theorem dX2_hasDayOrNever_12 : decode cX2_hasDayOrNever 12 = .ok (.iconst 1, 1) := by decide +kernel
theorem dX2_hasDayOrNever_13 : decode cX2_hasDayOrNever 13 = .ok (.goto 4, 3) := by decide +kernel
theorem dX2_hasBits_0 : decode cX2_hasBits 0 = .ok (.iload_n 1, 1) := by decide +kernel
theorem dX2_hasBits_1 : decode cX2_hasBits 1 = .ok (.ifCond .lt 17, 3) := by decide +kernel
theorem dX2_hasBits_18 : decode cX2_hasBits 18 = .ok (.iconst 0, 1) := by decide +kernel
theorem dX2_hasBits_19 : decode cX2_hasBits 19 = .ok (.ireturn, 1) := by decide +kernel
theorem dX2_hasBits_4 : decode cX2_hasBits 4 = .ok (.iload_n 1, 1) := by decide +kernel
theorem dX2_hasBits_5 : decode cX2_hasBits 5 = .ok (.iconst 1, 1) := by decide +kernel
theorem dX2_hasBits_6 : decode cX2_hasBits 6 = .ok (.aload_n 0, 1) := by decide +kernel
theorem dX2_hasBits_7 : decode cX2_hasBits 7 = .ok (.getfield 40, 3) := by decide +kernel
theorem dX2_hasBits_10 : decode cX2_hasBits 10 = .ok (.ishl, 1) := by decide +kernel
theorem dX2_hasBits_11 : decode cX2_hasBits 11 = .ok (.if_icmp .ge 7, 3) := by decide +kernel
theorem dX2_hasBits_14 : decode cX2_hasBits 14 = .ok (.iconst 1, 1) := by decide +kernel
theorem dX2_hasBits_15 : decode cX2_hasBits 15 = .ok (.goto 4, 3) := by decide +kernel
theorem dX2_chance_0 : decode cX2_chance 0 = .ok (.iload_n 1, 1) := by decide +kernel
theorem dX2_chance_1 : decode cX2_chance 1 = .ok (.iconst 1, 1) := by decide +kernel
theorem dX2_chance_2 : decode cX2_chance 2 = .ok (.if_icmp .ne 8, 3) := by decide +kernel
theorem dX2_chance_10 : decode cX2_chance 10 = .ok (.iload_n 2, 1) := by decide +kernel
theorem dX2_chance_11 : decode cX2_chance 11 = .ok (.ifCond .eq 10, 3) := by decide +kernel
theorem dX2_chance_21 : decode cX2_chance 21 = .ok (.aload_n 0, 1) := by decide +kernel
theorem dX2_chance_22 : decode cX2_chance 22 = .ok (.getfield 62, 3) := by decide +kernel
theorem dX2_chance_25 : decode cX2_chance 25 = .ok (.ireturn, 1) := by decide +kernel
theorem dX2_chance_14 : decode cX2_chance 14 = .ok (.aload_n 0, 1) := by decide +kernel
theorem dX2_chance_15 : decode cX2_chance 15 = .ok (.getfield 59, 3) := by decide +kernel
theorem dX2_chance_18 : decode cX2_chance 18 = .ok (.goto 7, 3) := by decide +kernel
theorem dX2_chance_5 : decode cX2_chance 5 = .ok (.aload_n 0, 1) := by decide +kernel
theorem dX2_chance_6 : decode cX2_chance 6 = .ok (.getfield 56, 3) := by decide +kernel
theorem dX2_chance_9 : decode cX2_chance 9 = .ok (.ireturn, 1) := by decide +kernel
theorem dX2_eaten_0 : decode cX2_eaten 0 = .ok (.iload_n 1, 1) := by decide +kernel
theorem dX2_eaten_1 : decode cX2_eaten 1 = .ok (.ifCond .lt 27, 3) := by decide +kernel
theorem dX2_eaten_28 : decode cX2_eaten 28 = .ok (.iconst 0, 1) := by decide +kernel
theorem dX2_eaten_29 : decode cX2_eaten 29 = .ok (.istore_n 3, 1) := by decide +kernel
theorem dX2_eaten_30 : decode cX2_eaten 30 = .ok (.iload_n 3, 1) := by decide +kernel
theorem dX2_eaten_31 : decode cX2_eaten 31 = .ok (.ifCond .eq 16, 3) := by decide +kernel
theorem dX2_eaten_47 : decode cX2_eaten 47 = .ok (.iconst 0, 1) := by decide +kernel
theorem dX2_eaten_48 : decode cX2_eaten 48 = .ok (.ireturn, 1) := by decide +kernel
theorem dX2_eaten_4 : decode cX2_eaten 4 = .ok (.iload_n 1, 1) := by decide +kernel
theorem dX2_eaten_5 : decode cX2_eaten 5 = .ok (.aload_n 0, 1) := by decide +kernel
theorem dX2_eaten_6 : decode cX2_eaten 6 = .ok (.getfield 40, 3) := by decide +kernel
theorem dX2_eaten_9 : decode cX2_eaten 9 = .ok (.if_icmp .ge 19, 3) := by decide +kernel
theorem dX2_eaten_12 : decode cX2_eaten 12 = .ok (.iload_n 2, 1) := by decide +kernel
theorem dX2_eaten_13 : decode cX2_eaten 13 = .ok (.ifCond .lt 15, 3) := by decide +kernel
theorem dX2_eaten_16 : decode cX2_eaten 16 = .ok (.iload_n 2, 1) := by decide +kernel
theorem dX2_eaten_17 : decode cX2_eaten 17 = .ok (.aload_n 0, 1) := by decide +kernel
theorem dX2_eaten_18 : decode cX2_eaten 18 = .ok (.getfield 47, 3) := by decide +kernel
theorem dX2_eaten_21 : decode cX2_eaten 21 = .ok (.if_icmp .ge 7, 3) := by decide +kernel
theorem dX2_eaten_24 : decode cX2_eaten 24 = .ok (.iconst 1, 1) := by decide +kernel
theorem dX2_eaten_25 : decode cX2_eaten 25 = .ok (.goto 4, 3) := by decide +kernel
theorem dX2_eaten_34 : decode cX2_eaten 34 = .ok (.aload_n 0, 1) := by decide +kernel
theorem dX2_eaten_35 : decode cX2_eaten 35 = .ok (.getfield 34, 3) := by decide +kernel
theorem dX2_eaten_38 : decode cX2_eaten 38 = .ok (.iload_n 1, 1) := by decide +kernel
theorem dX2_eaten_39 : decode cX2_eaten 39 = .ok (.iconst 3, 1) := by decide +kernel
theorem dX2_eaten_40 : decode cX2_eaten 40 = .ok (.imul, 1) := by decide +kernel
theorem dX2_eaten_41 : decode cX2_eaten 41 = .ok (.iload_n 2, 1) := by decide +kernel
theorem dX2_eaten_42 : decode cX2_eaten 42 = .ok (.iadd, 1) := by decide +kernel
theorem dX2_eaten_43 : decode cX2_eaten 43 = .ok (.iaload, 1) := by decide +kernel
theorem dX2_eaten_44 : decode cX2_eaten 44 = .ok (.goto 4, 3) := by decide +kernel
theorem dX2_wanted_0 : decode cX2_wanted 0 = .ok (.iload_n 3, 1) := by decide +kernel
theorem dX2_wanted_1 : decode cX2_wanted 1 = .ok (.ifCond .ne 7, 3) := by decide +kernel
theorem dX2_wanted_8 : decode cX2_wanted 8 = .ok (.aload_n 0, 1) := by decide +kernel
theorem dX2_wanted_9 : decode cX2_wanted 9 = .ok (.iload_n 1, 1) := by decide +kernel
theorem dX2_wanted_10 : decode cX2_wanted 10 = .ok (.iload_n 2, 1) := by decide +kernel
theorem dX2_wanted_11 : decode cX2_wanted 11 = .ok (.invokevirtual 65, 3) := by decide +kernel
theorem dX2_wanted_14 : decode cX2_wanted 14 = .ok (.aload_n 0, 1) := by decide +kernel
theorem dX2_wanted_15 : decode cX2_wanted 15 = .ok (.getfield 53, 3) := by decide +kernel
theorem dX2_wanted_18 : decode cX2_wanted 18 = .ok (.iload_n 3, 1) := by decide +kernel
theorem dX2_wanted_19 : decode cX2_wanted 19 = .ok (.isub, 1) := by decide +kernel
theorem dX2_wanted_20 : decode cX2_wanted 20 = .ok (.imul, 1) := by decide +kernel
theorem dX2_wanted_21 : decode cX2_wanted 21 = .ok (.ireturn, 1) := by decide +kernel
theorem dX2_wanted_4 : decode cX2_wanted 4 = .ok (.iconst 0, 1) := by decide +kernel
theorem dX2_wanted_5 : decode cX2_wanted 5 = .ok (.goto 16, 3) := by decide +kernel
theorem dX2_pathBetween_0 : decode cX2_pathBetween 0 = .ok (.aload_n 0, 1) := by decide +kernel
theorem dX2_pathBetween_1 : decode cX2_pathBetween 1 = .ok (.iload_n 1, 1) := by decide +kernel
theorem dX2_pathBetween_2 : decode cX2_pathBetween 2 = .ok (.iload_n 2, 1) := by decide +kernel
theorem dX2_pathBetween_3 : decode cX2_pathBetween 3 = .ok (.invokevirtual 69, 3) := by decide +kernel
theorem dX2_pathBetween_6 : decode cX2_pathBetween 6 = .ok (.ifCond .eq 17, 3) := by decide +kernel
theorem dX2_pathBetween_9 : decode cX2_pathBetween 9 = .ok (.aload_n 0, 1) := by decide +kernel
theorem dX2_pathBetween_10 : decode cX2_pathBetween 10 = .ok (.getfield 37, 3) := by decide +kernel
theorem dX2_pathBetween_13 : decode cX2_pathBetween 13 = .ok (.iload_n 1, 1) := by decide +kernel
theorem dX2_pathBetween_14 : decode cX2_pathBetween 14 = .ok (.bipush 6, 2) := by decide +kernel
theorem dX2_pathBetween_16 : decode cX2_pathBetween 16 = .ok (.imul, 1) := by decide +kernel
theorem dX2_pathBetween_17 : decode cX2_pathBetween 17 = .ok (.iload_n 2, 1) := by decide +kernel
theorem dX2_pathBetween_18 : decode cX2_pathBetween 18 = .ok (.iadd, 1) := by decide +kernel
theorem dX2_pathBetween_19 : decode cX2_pathBetween 19 = .ok (.iaload, 1) := by decide +kernel
theorem dX2_pathBetween_20 : decode cX2_pathBetween 20 = .ok (.goto 4, 3) := by decide +kernel
theorem dX2_pathBetween_24 : decode cX2_pathBetween 24 = .ok (.ireturn, 1) := by decide +kernel
theorem dX2_pathBetween_23 : decode cX2_pathBetween 23 = .ok (.iconst 0, 1) := by decide +kernel
theorem dX2_fedDays_0 : decode cX2_fedDays 0 = .ok (.iload_n 3, 1) := by decide +kernel
theorem dX2_fedDays_1 : decode cX2_fedDays 1 = .ok (.ifCond .eq 14, 3) := by decide +kernel
theorem dX2_fedDays_15 : decode cX2_fedDays 15 = .ok (.iconst 0, 1) := by decide +kernel
theorem dX2_fedDays_16 : decode cX2_fedDays 16 = .ok (.ireturn, 1) := by decide +kernel
theorem dX2_fedDays_4 : decode cX2_fedDays 4 = .ok (.iload 4, 2) := by decide +kernel
theorem dX2_fedDays_6 : decode cX2_fedDays 6 = .ok (.ifCond .eq 11, 3) := by decide +kernel
theorem dX2_fedDays_17 : decode cX2_fedDays 17 = .ok (.iload 4, 2) := by decide +kernel
theorem dX2_fedDays_19 : decode cX2_fedDays 19 = .ok (.ifCond .ne 10, 3) := by decide +kernel
theorem dX2_fedDays_22 : decode cX2_fedDays 22 = .ok (.aload_n 0, 1) := by decide +kernel
theorem dX2_fedDays_23 : decode cX2_fedDays 23 = .ok (.getfield 53, 3) := by decide +kernel
theorem dX2_fedDays_26 : decode cX2_fedDays 26 = .ok (.goto 5, 3) := by decide +kernel
theorem dX2_fedDays_31 : decode cX2_fedDays 31 = .ok (.istore 5, 2) := by decide +kernel
theorem dX2_fedDays_33 : decode cX2_fedDays 33 = .ok (.aload_n 0, 1) := by decide +kernel
theorem dX2_fedDays_34 : decode cX2_fedDays 34 = .ok (.iload_n 1, 1) := by decide +kernel
theorem dX2_fedDays_35 : decode cX2_fedDays 35 = .ok (.iload_n 2, 1) := by decide +kernel
theorem dX2_fedDays_36 : decode cX2_fedDays 36 = .ok (.invokevirtual 73, 3) := by decide +kernel
theorem dX2_fedDays_39 : decode cX2_fedDays 39 = .ok (.iload 5, 2) := by decide +kernel
theorem dX2_fedDays_41 : decode cX2_fedDays 41 = .ok (.iload_n 3, 1) := by decide +kernel
theorem dX2_fedDays_42 : decode cX2_fedDays 42 = .ok (.isub, 1) := by decide +kernel
theorem dX2_fedDays_43 : decode cX2_fedDays 43 = .ok (.invokestatic 76, 3) := by decide +kernel
theorem dX2_fedDays_46 : decode cX2_fedDays 46 = .ok (.ireturn, 1) := by decide +kernel
theorem dX2_fedDays_9 : decode cX2_fedDays 9 = .ok (.iload 4, 2) := by decide +kernel
theorem dX2_fedDays_11 : decode cX2_fedDays 11 = .ok (.iload_n 3, 1) := by decide +kernel
theorem dX2_fedDays_12 : decode cX2_fedDays 12 = .ok (.if_icmp .gt 5, 3) := by decide +kernel
theorem dX2_fedDays_29 : decode cX2_fedDays 29 = .ok (.iload 4, 2) := by decide +kernel
theorem dX2_loadsOf_0 : decode cX2_loadsOf 0 = .ok (.aload_n 0, 1) := by decide +kernel
theorem dX2_loadsOf_1 : decode cX2_loadsOf 1 = .ok (.getfield 15, 3) := by decide +kernel
theorem dX2_loadsOf_4 : decode cX2_loadsOf 4 = .ok (.iconst 1, 1) := by decide +kernel
theorem dX2_loadsOf_5 : decode cX2_loadsOf 5 = .ok (.if_icmp .ge 7, 3) := by decide +kernel
theorem dX2_loadsOf_12 : decode cX2_loadsOf 12 = .ok (.iload_n 1, 1) := by decide +kernel
theorem dX2_loadsOf_13 : decode cX2_loadsOf 13 = .ok (.aload_n 0, 1) := by decide +kernel
theorem dX2_loadsOf_14 : decode cX2_loadsOf 14 = .ok (.getfield 15, 3) := by decide +kernel
theorem dX2_loadsOf_17 : decode cX2_loadsOf 17 = .ok (.iadd, 1) := by decide +kernel
theorem dX2_loadsOf_18 : decode cX2_loadsOf 18 = .ok (.iconst 1, 1) := by decide +kernel
theorem dX2_loadsOf_19 : decode cX2_loadsOf 19 = .ok (.isub, 1) := by decide +kernel
theorem dX2_loadsOf_20 : decode cX2_loadsOf 20 = .ok (.aload_n 0, 1) := by decide +kernel
theorem dX2_loadsOf_21 : decode cX2_loadsOf 21 = .ok (.getfield 15, 3) := by decide +kernel
theorem dX2_loadsOf_24 : decode cX2_loadsOf 24 = .ok (.idiv, 1) := by decide +kernel
theorem dX2_loadsOf_25 : decode cX2_loadsOf 25 = .ok (.ireturn, 1) := by decide +kernel
theorem dX2_roadsShut_0 : decode cX2_roadsShut 0 = .ok (.iconst 0, 1) := by decide +kernel
theorem dX2_roadsShut_1 : decode cX2_roadsShut 1 = .ok (.istore_n 2, 1) := by decide +kernel
theorem dX2_roadsShut_2 : decode cX2_roadsShut 2 = .ok (.iconst 0, 1) := by decide +kernel
theorem dX2_roadsShut_3 : decode cX2_roadsShut 3 = .ok (.istore_n 3, 1) := by decide +kernel
theorem dX2_roadsShut_4 : decode cX2_roadsShut 4 = .ok (.iload_n 3, 1) := by decide +kernel
theorem dX2_roadsShut_5 : decode cX2_roadsShut 5 = .ok (.aload_n 0, 1) := by decide +kernel
theorem dX2_roadsShut_6 : decode cX2_roadsShut 6 = .ok (.getfield 40, 3) := by decide +kernel
theorem dX2_roadsShut_9 : decode cX2_roadsShut 9 = .ok (.if_icmp .ge 29, 3) := by decide +kernel
theorem dX2_roadsShut_38 : decode cX2_roadsShut 38 = .ok (.iload_n 2, 1) := by decide +kernel
theorem dX2_roadsShut_39 : decode cX2_roadsShut 39 = .ok (.ireturn, 1) := by decide +kernel
theorem dX2_roadsShut_12 : decode cX2_roadsShut 12 = .ok (.iload_n 3, 1) := by decide +kernel
theorem dX2_roadsShut_13 : decode cX2_roadsShut 13 = .ok (.aload_n 1, 1) := by decide +kernel
theorem dX2_roadsShut_14 : decode cX2_roadsShut 14 = .ok (.arraylength, 1) := by decide +kernel
theorem dX2_roadsShut_15 : decode cX2_roadsShut 15 = .ok (.if_icmp .ge 23, 3) := by decide +kernel
theorem dX2_roadsShut_18 : decode cX2_roadsShut 18 = .ok (.iload_n 2, 1) := by decide +kernel
theorem dX2_roadsShut_19 : decode cX2_roadsShut 19 = .ok (.aload_n 1, 1) := by decide +kernel
theorem dX2_roadsShut_20 : decode cX2_roadsShut 20 = .ok (.iload_n 3, 1) := by decide +kernel
theorem dX2_roadsShut_21 : decode cX2_roadsShut 21 = .ok (.iaload, 1) := by decide +kernel
theorem dX2_roadsShut_22 : decode cX2_roadsShut 22 = .ok (.ifCond .ne 7, 3) := by decide +kernel
theorem dX2_roadsShut_29 : decode cX2_roadsShut 29 = .ok (.iconst 1, 1) := by decide +kernel
theorem dX2_roadsShut_30 : decode cX2_roadsShut 30 = .ok (.iadd, 1) := by decide +kernel
theorem dX2_roadsShut_31 : decode cX2_roadsShut 31 = .ok (.istore_n 2, 1) := by decide +kernel
theorem dX2_roadsShut_32 : decode cX2_roadsShut 32 = .ok (.iinc 3 1, 3) := by decide +kernel
theorem dX2_roadsShut_35 : decode cX2_roadsShut 35 = .ok (.goto (-31), 3) := by decide +kernel
theorem dX2_roadsShut_25 : decode cX2_roadsShut 25 = .ok (.iconst 0, 1) := by decide +kernel
theorem dX2_roadsShut_26 : decode cX2_roadsShut 26 = .ok (.goto 4, 3) := by decide +kernel
theorem dX2_firstLacking_0 : decode cX2_firstLacking 0 = .ok (.aload_n 0, 1) := by decide +kernel
theorem dX2_firstLacking_1 : decode cX2_firstLacking 1 = .ok (.iload_n 1, 1) := by decide +kernel
theorem dX2_firstLacking_2 : decode cX2_firstLacking 2 = .ok (.iload_n 2, 1) := by decide +kernel
theorem dX2_firstLacking_3 : decode cX2_firstLacking 3 = .ok (.invokevirtual 65, 3) := by decide +kernel
theorem dX2_firstLacking_6 : decode cX2_firstLacking 6 = .ok (.istore 5, 2) := by decide +kernel
theorem dX2_firstLacking_8 : decode cX2_firstLacking 8 = .ok (.iload 5, 2) := by decide +kernel
theorem dX2_firstLacking_10 : decode cX2_firstLacking 10 = .ok (.ifCond .eq 15, 3) := by decide +kernel
theorem dX2_firstLacking_25 : decode cX2_firstLacking 25 = .ok (.iconst 0, 1) := by decide +kernel
theorem dX2_firstLacking_26 : decode cX2_firstLacking 26 = .ok (.ireturn, 1) := by decide +kernel
theorem dX2_firstLacking_13 : decode cX2_firstLacking 13 = .ok (.aload_n 0, 1) := by decide +kernel
theorem dX2_firstLacking_14 : decode cX2_firstLacking 14 = .ok (.iload_n 1, 1) := by decide +kernel
theorem dX2_firstLacking_15 : decode cX2_firstLacking 15 = .ok (.iload_n 2, 1) := by decide +kernel
theorem dX2_firstLacking_16 : decode cX2_firstLacking 16 = .ok (.iload_n 3, 1) := by decide +kernel
theorem dX2_firstLacking_17 : decode cX2_firstLacking 17 = .ok (.invokevirtual 81, 3) := by decide +kernel
theorem dX2_firstLacking_20 : decode cX2_firstLacking 20 = .ok (.iload 4, 2) := by decide +kernel
theorem dX2_firstLacking_22 : decode cX2_firstLacking 22 = .ok (.if_icmp .gt 5, 3) := by decide +kernel
theorem dX2_firstLacking_27 : decode cX2_firstLacking 27 = .ok (.iload_n 3, 1) := by decide +kernel
theorem dX2_firstLacking_28 : decode cX2_firstLacking 28 = .ok (.iload 4, 2) := by decide +kernel
theorem dX2_firstLacking_30 : decode cX2_firstLacking 30 = .ok (.iload 5, 2) := by decide +kernel
theorem dX2_firstLacking_32 : decode cX2_firstLacking 32 = .ok (.idiv, 1) := by decide +kernel
theorem dX2_firstLacking_33 : decode cX2_firstLacking 33 = .ok (.iadd, 1) := by decide +kernel
theorem dX2_firstLacking_34 : decode cX2_firstLacking 34 = .ok (.iconst 1, 1) := by decide +kernel
theorem dX2_firstLacking_35 : decode cX2_firstLacking 35 = .ok (.iadd, 1) := by decide +kernel
theorem dX2_firstLacking_36 : decode cX2_firstLacking 36 = .ok (.ireturn, 1) := by decide +kernel
theorem dX2_firstWrong_0 : decode cX2_firstWrong 0 = .ok (.iconst 0, 1) := by decide +kernel
theorem dX2_firstWrong_1 : decode cX2_firstWrong 1 = .ok (.istore_n 3, 1) := by decide +kernel
theorem dX2_firstWrong_2 : decode cX2_firstWrong 2 = .ok (.iload_n 3, 1) := by decide +kernel
theorem dX2_firstWrong_3 : decode cX2_firstWrong 3 = .ok (.aload_n 1, 1) := by decide +kernel
theorem dX2_firstWrong_4 : decode cX2_firstWrong 4 = .ok (.arraylength, 1) := by decide +kernel
theorem dX2_firstWrong_5 : decode cX2_firstWrong 5 = .ok (.if_icmp .ge 64, 3) := by decide +kernel
theorem dX2_firstWrong_69 : decode cX2_firstWrong 69 = .ok (.iconst 0, 1) := by decide +kernel
theorem dX2_firstWrong_70 : decode cX2_firstWrong 70 = .ok (.ireturn, 1) := by decide +kernel
theorem dX2_firstWrong_8 : decode cX2_firstWrong 8 = .ok (.iload_n 2, 1) := by decide +kernel
theorem dX2_firstWrong_9 : decode cX2_firstWrong 9 = .ok (.ifCond .eq 14, 3) := by decide +kernel
theorem dX2_firstWrong_23 : decode cX2_firstWrong 23 = .ok (.iconst 0, 1) := by decide +kernel
theorem dX2_firstWrong_24 : decode cX2_firstWrong 24 = .ok (.istore 4, 2) := by decide +kernel
theorem dX2_firstWrong_26 : decode cX2_firstWrong 26 = .ok (.aload_n 1, 1) := by decide +kernel
theorem dX2_firstWrong_27 : decode cX2_firstWrong 27 = .ok (.iload_n 3, 1) := by decide +kernel
theorem dX2_firstWrong_28 : decode cX2_firstWrong 28 = .ok (.laload, 1) := by decide +kernel
theorem dX2_firstWrong_29 : decode cX2_firstWrong 29 = .ok (.lconst 0, 1) := by decide +kernel
theorem dX2_firstWrong_30 : decode cX2_firstWrong 30 = .ok (.lcmp, 1) := by decide +kernel
theorem dX2_firstWrong_31 : decode cX2_firstWrong 31 = .ok (.ifCond .eq 32, 3) := by decide +kernel
theorem dX2_firstWrong_63 : decode cX2_firstWrong 63 = .ok (.iinc 3 1, 3) := by decide +kernel
theorem dX2_firstWrong_66 : decode cX2_firstWrong 66 = .ok (.goto (-64), 3) := by decide +kernel
theorem dX2_firstWrong_34 : decode cX2_firstWrong 34 = .ok (.iload 4, 2) := by decide +kernel
theorem dX2_firstWrong_36 : decode cX2_firstWrong 36 = .ok (.ifCond .ne 23, 3) := by decide +kernel
theorem dX2_firstWrong_39 : decode cX2_firstWrong 39 = .ok (.aload_n 1, 1) := by decide +kernel
theorem dX2_firstWrong_40 : decode cX2_firstWrong 40 = .ok (.iload_n 3, 1) := by decide +kernel
theorem dX2_firstWrong_41 : decode cX2_firstWrong 41 = .ok (.laload, 1) := by decide +kernel
theorem dX2_firstWrong_42 : decode cX2_firstWrong 42 = .ok (.lconst 0, 1) := by decide +kernel
theorem dX2_firstWrong_43 : decode cX2_firstWrong 43 = .ok (.lcmp, 1) := by decide +kernel
theorem dX2_firstWrong_44 : decode cX2_firstWrong 44 = .ok (.ifCond .lt 15, 3) := by decide +kernel
theorem dX2_firstWrong_59 : decode cX2_firstWrong 59 = .ok (.iload_n 3, 1) := by decide +kernel
theorem dX2_firstWrong_60 : decode cX2_firstWrong 60 = .ok (.iconst 1, 1) := by decide +kernel
theorem dX2_firstWrong_61 : decode cX2_firstWrong 61 = .ok (.iadd, 1) := by decide +kernel
theorem dX2_firstWrong_62 : decode cX2_firstWrong 62 = .ok (.ireturn, 1) := by decide +kernel
theorem dX2_firstWrong_47 : decode cX2_firstWrong 47 = .ok (.aload_n 1, 1) := by decide +kernel
theorem dX2_firstWrong_48 : decode cX2_firstWrong 48 = .ok (.iload_n 3, 1) := by decide +kernel
theorem dX2_firstWrong_49 : decode cX2_firstWrong 49 = .ok (.laload, 1) := by decide +kernel
theorem dX2_firstWrong_50 : decode cX2_firstWrong 50 = .ok (.aload_n 0, 1) := by decide +kernel
theorem dX2_firstWrong_51 : decode cX2_firstWrong 51 = .ok (.getfield 9, 3) := by decide +kernel
theorem dX2_firstWrong_54 : decode cX2_firstWrong 54 = .ok (.i2l, 1) := by decide +kernel
theorem dX2_firstWrong_55 : decode cX2_firstWrong 55 = .ok (.lcmp, 1) := by decide +kernel
theorem dX2_firstWrong_56 : decode cX2_firstWrong 56 = .ok (.ifCond .le 7, 3) := by decide +kernel
theorem dX2_firstWrong_12 : decode cX2_firstWrong 12 = .ok (.iload_n 2, 1) := by decide +kernel
theorem dX2_firstWrong_13 : decode cX2_firstWrong 13 = .ok (.iload_n 3, 1) := by decide +kernel
theorem dX2_firstWrong_14 : decode cX2_firstWrong 14 = .ok (.iconst 1, 1) := by decide +kernel
theorem dX2_firstWrong_15 : decode cX2_firstWrong 15 = .ok (.iadd, 1) := by decide +kernel
theorem dX2_firstWrong_16 : decode cX2_firstWrong 16 = .ok (.if_icmp .ge 7, 3) := by decide +kernel
theorem dX2_firstWrong_19 : decode cX2_firstWrong 19 = .ok (.iconst 1, 1) := by decide +kernel
theorem dX2_firstWrong_20 : decode cX2_firstWrong 20 = .ok (.goto 4, 3) := by decide +kernel
theorem sV_X2_43 : SiteV RX2 43 yX2_hasValley cX2_hasValley 2 (some .boolean) 1 := ⟨ml_X2_43, im_X2_hasValley, se_X2_hasValley, ini_X2, co_X2_hasValley, by decide +kernel⟩
theorem sV_X2_50 : SiteV RX2 50 yX2_hasThing cX2_hasThing 2 (some .boolean) 1 := ⟨ml_X2_50, im_X2_hasThing, se_X2_hasThing, ini_X2, co_X2_hasThing, by decide +kernel⟩
theorem sV_X2_65 : SiteV RX2 65 yX2_eaten cX2_eaten 4 (some .int) 2 := ⟨ml_X2_65, im_X2_eaten, se_X2_eaten, ini_X2, co_X2_eaten, by decide +kernel⟩
theorem sV_X2_69 : SiteV RX2 69 yX2_hasTwo cX2_hasTwo 3 (some .boolean) 2 := ⟨ml_X2_69, im_X2_hasTwo, se_X2_hasTwo, ini_X2, co_X2_hasTwo, by decide +kernel⟩
theorem sV_X2_73 : SiteV RX2 73 yX2_pathBetween cX2_pathBetween 3 (some .int) 2 := ⟨ml_X2_73, im_X2_pathBetween, se_X2_pathBetween, ini_X2, co_X2_pathBetween, by decide +kernel⟩
theorem sV_X2_81 : SiteV RX2 81 yX2_wanted cX2_wanted 4 (some .int) 3 := ⟨ml_X2_81, im_X2_wanted, se_X2_wanted, ini_X2, co_X2_wanted, by decide +kernel⟩
set_option maxHeartbeats 4000000 in
set_option maxRecDepth 100000 in
theorem t_X2_hasValley (l : Launch) (D : va_G) (cy : Nat → ClassId) (base : Nat) (τ : Nat → Nat) (G : Gh) (a : Nat) (h_a : τ a = 7) (v : Int32) : MM l yX2_hasValley cX2_hasValley 2 (some .boolean) 0 0 0 D cy [.ref a, .int v] (PT D cy base τ G) (PuI (fun r => ((r = 1 ∧ 0 ≤ v.toInt ∧ v.toInt ≤ 5) ∨ (r = 0)))) noF := by
  refine MM.of (by decide) (Nat.le_of_ble_eq_true rfl) ?_
  intro p e s m below meth c C hPT ls hl
  obtain ⟨hx, hb, hr, hml, hown, hts, hlocks, hK, hnm⟩ := C
  obtain ⟨hZ, hT⟩ := hPT
  have hS : va_S (RA base) s.heap s.heap [] := va_S.rf
  have hl : lv_has ls 2 [(0, .ref a), (1, .int v)] := hl
  refine lv_iload_n hx hb dX2_hasValley_0 rfl (lv_at hl 1 rfl) ?_
  refine lv_if_lt (tgt := 16) hx hb dX2_hasValley_1 (by decide) (fun c_1 => ?_) (fun c_1 => ?_)
  · skip
    have tc_1 : v.toInt < 0 := (fa_lt _ _).mp c_1
    refine lv_iconst (v := 0) hx hb dX2_hasValley_16 (by decide) ?_
    exact ret_z (ty := .boolean) hx hb hr rfl hlocks ⟨rfl, _, rfl, (Or.inr rfl)⟩ (fun _ h => absurd h List.not_mem_nil) (Nat.le_refl _) (Nat.le_refl _) dX2_hasValley_17
  · skip
    have tc_1 : ¬ v.toInt < 0 := fun h => c_1 ((fa_lt _ _).mpr h)
    refine lv_iload_n hx hb dX2_hasValley_4 rfl (lv_at hl 1 rfl) ?_
    refine lv_aload_n hx hb dX2_hasValley_5 rfl (lv_at hl 0 rfl) ?_
    refine t_geti cf_7 hx hb hts hown hK hT h_a (k := 6) rfl fl_X2_40 (fun _ h9 => h9) dX2_hasValley_6 (fun z_2 ez_2 rz_2 => ?_)
    have ez_2 : z_2 = G.1 a 6 := ez_2
    have rz_2 : 0 ≤ z_2.toInt ∧ z_2.toInt ≤ 6 := rz_2
    refine lv_icmp_ge (tgt := 16) hx hb dX2_hasValley_9 (by decide) (fun c_3 => ?_) (fun c_3 => ?_)
    · skip
      have tc_3 : z_2.toInt ≤ v.toInt := (fa_le _ _).mp c_3
      refine lv_iconst (v := 0) hx hb dX2_hasValley_16 (by decide) ?_
      exact ret_z (ty := .boolean) hx hb hr rfl hlocks ⟨rfl, _, rfl, (Or.inr rfl)⟩ (fun _ h => absurd h List.not_mem_nil) (Nat.le_refl _) (Nat.le_refl _) dX2_hasValley_17
    · skip
      have tc_3 : ¬ z_2.toInt ≤ v.toInt := fun h => c_3 ((fa_le _ _).mpr h)
      refine lv_iconst (v := 1) hx hb dX2_hasValley_12 (by decide) ?_
      refine lv_goto (tgt := 17) hx hb dX2_hasValley_13 (by decide) ?_
      exact ret_z (ty := .boolean) hx hb hr rfl hlocks ⟨rfl, _, rfl, (Or.inl ⟨rfl, (by omega), (by omega)⟩)⟩ (fun _ h => absurd h List.not_mem_nil) (Nat.le_refl _) (Nat.le_refl _) dX2_hasValley_17
set_option maxHeartbeats 4000000 in
set_option maxRecDepth 100000 in
theorem t_X2_hasThing (l : Launch) (D : va_G) (cy : Nat → ClassId) (base : Nat) (τ : Nat → Nat) (G : Gh) (a : Nat) (h_a : τ a = 7) (v : Int32) : MM l yX2_hasThing cX2_hasThing 2 (some .boolean) 0 0 0 D cy [.ref a, .int v] (PT D cy base τ G) (PuI (fun r => ((r = 1 ∧ 0 ≤ v.toInt ∧ v.toInt ≤ 2) ∨ (r = 0)))) noF := by
  refine MM.of (by decide) (Nat.le_of_ble_eq_true rfl) ?_
  intro p e s m below meth c C hPT ls hl
  obtain ⟨hx, hb, hr, hml, hown, hts, hlocks, hK, hnm⟩ := C
  obtain ⟨hZ, hT⟩ := hPT
  have hS : va_S (RA base) s.heap s.heap [] := va_S.rf
  have hl : lv_has ls 2 [(0, .ref a), (1, .int v)] := hl
  refine lv_iload_n hx hb dX2_hasThing_0 rfl (lv_at hl 1 rfl) ?_
  refine lv_if_lt (tgt := 16) hx hb dX2_hasThing_1 (by decide) (fun c_1 => ?_) (fun c_1 => ?_)
  · skip
    have tc_1 : v.toInt < 0 := (fa_lt _ _).mp c_1
    refine lv_iconst (v := 0) hx hb dX2_hasThing_16 (by decide) ?_
    exact ret_z (ty := .boolean) hx hb hr rfl hlocks ⟨rfl, _, rfl, (Or.inr rfl)⟩ (fun _ h => absurd h List.not_mem_nil) (Nat.le_refl _) (Nat.le_refl _) dX2_hasThing_17
  · skip
    have tc_1 : ¬ v.toInt < 0 := fun h => c_1 ((fa_lt _ _).mpr h)
    refine lv_iload_n hx hb dX2_hasThing_4 rfl (lv_at hl 1 rfl) ?_
    refine lv_aload_n hx hb dX2_hasThing_5 rfl (lv_at hl 0 rfl) ?_
    refine t_geti cf_7 hx hb hts hown hK hT h_a (k := 5) rfl fl_X2_47 (fun _ h9 => h9) dX2_hasThing_6 (fun z_2 ez_2 rz_2 => ?_)
    have ez_2 : z_2 = G.1 a 5 := ez_2
    have rz_2 : 0 ≤ z_2.toInt ∧ z_2.toInt ≤ 3 := rz_2
    refine lv_icmp_ge (tgt := 16) hx hb dX2_hasThing_9 (by decide) (fun c_3 => ?_) (fun c_3 => ?_)
    · skip
      have tc_3 : z_2.toInt ≤ v.toInt := (fa_le _ _).mp c_3
      refine lv_iconst (v := 0) hx hb dX2_hasThing_16 (by decide) ?_
      exact ret_z (ty := .boolean) hx hb hr rfl hlocks ⟨rfl, _, rfl, (Or.inr rfl)⟩ (fun _ h => absurd h List.not_mem_nil) (Nat.le_refl _) (Nat.le_refl _) dX2_hasThing_17
    · skip
      have tc_3 : ¬ z_2.toInt ≤ v.toInt := fun h => c_3 ((fa_le _ _).mpr h)
      refine lv_iconst (v := 1) hx hb dX2_hasThing_12 (by decide) ?_
      refine lv_goto (tgt := 17) hx hb dX2_hasThing_13 (by decide) ?_
      exact ret_z (ty := .boolean) hx hb hr rfl hlocks ⟨rfl, _, rfl, (Or.inl ⟨rfl, (by omega), (by omega)⟩)⟩ (fun _ h => absurd h List.not_mem_nil) (Nat.le_refl _) (Nat.le_refl _) dX2_hasThing_17
set_option maxHeartbeats 4000000 in
set_option maxRecDepth 100000 in
theorem t_X2_hasTwo (l : Launch) (D : va_G) (cy : Nat → ClassId) (base : Nat) (τ : Nat → Nat) (G : Gh) (a : Nat) (h_a : τ a = 7) (v : Int32) (w : Int32) : MM l yX2_hasTwo cX2_hasTwo 3 (some .boolean) 1 0 0 D cy [.ref a, .int v, .int w] (PT D cy base τ G) (PuI (fun r => ((r = 1 ∧ 0 ≤ v.toInt ∧ v.toInt ≤ 5 ∧ 0 ≤ w.toInt ∧ w.toInt ≤ 5) ∨ (r = 0)))) noF := by
  refine MM.of (by decide) (Nat.le_of_ble_eq_true rfl) ?_
  intro p e s m below meth c C hPT ls hl
  obtain ⟨hx, hb, hr, hml, hown, hts, hlocks, hK, hnm⟩ := C
  obtain ⟨hZ, hT⟩ := hPT
  have hS : va_S (RA base) s.heap s.heap [] := va_S.rf
  have hl : lv_has ls 3 [(0, .ref a), (1, .int v), (2, .int w)] := hl
  refine lv_aload_n hx hb dX2_hasTwo_0 rfl (lv_at hl 0 rfl) ?_
  refine lv_iload_n hx hb dX2_hasTwo_1 rfl (lv_at hl 1 rfl) ?_
  refine pu_calli (runV (As := [.int v]) (rest := []) ⟨hx, hb, hml, hown, hts⟩ (t_X2_hasValley l D cy base τ G a h_a v) sV_X2_43 hK (t_recv cf_7 hK hT h_a) ⟨Nat.le_trans hZ hS.1, hT⟩ ⟨Nat.le_of_ble_eq_true rfl, Nat.le_of_ble_eq_true rfl⟩ rfl hl.1 rfl (Nat.le_of_ble_eq_true rfl) dX2_hasTwo_2 ⟨Nat.le_of_ble_eq_true rfl, Nat.le_of_ble_eq_true rfl⟩) (fun r_1 hr_1 => ?_)
  have hr_1_c := hr_1
  rcases hr_1_c with hr_1_0 | hr_1_1
  · skip
    obtain ⟨er_1, hr_1_0_f0, hr_1_0_f1⟩ := hr_1_0
    have hr_1_0_f0 : 0 ≤ v.toInt := hr_1_0_f0
    have hr_1_0_f1 : v.toInt ≤ 5 := hr_1_0_f1
    subst er_1
    refine W.eq (g2 := F0 m 5 ls [.int 1]) rfl ?_
    refine lv_if_eq (tgt := 25) hx hb dX2_hasTwo_5 (by decide) (fun c_2 => absurd c_2 (by decide)) (fun _ => ?_)
    refine lv_aload_n hx hb dX2_hasTwo_8 rfl (lv_at hl 0 rfl) ?_
    refine lv_iload_n hx hb dX2_hasTwo_9 rfl (lv_at hl 2 rfl) ?_
    refine pu_calli (runV (As := [.int w]) (rest := []) ⟨hx, hb, hml, hown, hts⟩ (t_X2_hasValley l D cy base τ G a h_a w) sV_X2_43 hK (t_recv cf_7 hK hT h_a) ⟨Nat.le_trans hZ hS.1, hT⟩ ⟨Nat.le_of_ble_eq_true rfl, Nat.le_of_ble_eq_true rfl⟩ rfl hl.1 rfl (Nat.le_of_ble_eq_true rfl) dX2_hasTwo_10 ⟨Nat.le_of_ble_eq_true rfl, Nat.le_of_ble_eq_true rfl⟩) (fun r_3 hr_3 => ?_)
    have hr_3_c := hr_3
    rcases hr_3_c with hr_3_0 | hr_3_1
    · skip
      obtain ⟨er_3, hr_3_0_f0, hr_3_0_f1⟩ := hr_3_0
      have hr_3_0_f0 : 0 ≤ w.toInt := hr_3_0_f0
      have hr_3_0_f1 : w.toInt ≤ 5 := hr_3_0_f1
      subst er_3
      refine W.eq (g2 := F0 m 13 ls [.int 1]) rfl ?_
      refine lv_if_eq (tgt := 25) hx hb dX2_hasTwo_13 (by decide) (fun c_4 => absurd c_4 (by decide)) (fun _ => ?_)
      refine lv_iload_n hx hb dX2_hasTwo_16 rfl (lv_at hl 1 rfl) ?_
      refine lv_iload_n hx hb dX2_hasTwo_17 rfl (lv_at hl 2 rfl) ?_
      refine lv_icmp_eq (tgt := 25) hx hb dX2_hasTwo_18 (by decide) (fun c_5 => ?_) (fun c_5 => ?_)
      · skip
        have tc_5 : v.toInt = w.toInt := (fa_eq _ _).mp c_5
        refine lv_iconst (v := 0) hx hb dX2_hasTwo_25 (by decide) ?_
        exact ret_z (ty := .boolean) hx hb hr rfl hlocks ⟨rfl, _, rfl, (Or.inr rfl)⟩ (fun _ h => absurd h List.not_mem_nil) (Nat.le_refl _) (Nat.le_refl _) dX2_hasTwo_26
      · skip
        have tc_5 : ¬ v.toInt = w.toInt := fun h => c_5 ((fa_eq _ _).mpr h)
        refine lv_iconst (v := 1) hx hb dX2_hasTwo_21 (by decide) ?_
        refine lv_goto (tgt := 26) hx hb dX2_hasTwo_22 (by decide) ?_
        exact ret_z (ty := .boolean) hx hb hr rfl hlocks ⟨rfl, _, rfl, (Or.inl ⟨rfl, (by omega), (by omega), (by omega), (by omega)⟩)⟩ (fun _ h => absurd h List.not_mem_nil) (Nat.le_refl _) (Nat.le_refl _) dX2_hasTwo_26
    · skip
      have er_3 := hr_3_1
      subst er_3
      refine W.eq (g2 := F0 m 13 ls [.int 0]) rfl ?_
      refine lv_if_eq (tgt := 25) hx hb dX2_hasTwo_13 (by decide) (fun _ => ?_) (fun c_6 => absurd (by decide) c_6)
      refine lv_iconst (v := 0) hx hb dX2_hasTwo_25 (by decide) ?_
      exact ret_z (ty := .boolean) hx hb hr rfl hlocks ⟨rfl, _, rfl, (Or.inr rfl)⟩ (fun _ h => absurd h List.not_mem_nil) (Nat.le_refl _) (Nat.le_refl _) dX2_hasTwo_26
  · skip
    have er_1 := hr_1_1
    subst er_1
    refine W.eq (g2 := F0 m 5 ls [.int 0]) rfl ?_
    refine lv_if_eq (tgt := 25) hx hb dX2_hasTwo_5 (by decide) (fun _ => ?_) (fun c_7 => absurd (by decide) c_7)
    refine lv_iconst (v := 0) hx hb dX2_hasTwo_25 (by decide) ?_
    exact ret_z (ty := .boolean) hx hb hr rfl hlocks ⟨rfl, _, rfl, (Or.inr rfl)⟩ (fun _ h => absurd h List.not_mem_nil) (Nat.le_refl _) (Nat.le_refl _) dX2_hasTwo_26
set_option maxHeartbeats 4000000 in
set_option maxRecDepth 100000 in
theorem t_X2_hasStore (l : Launch) (D : va_G) (cy : Nat → ClassId) (base : Nat) (τ : Nat → Nat) (G : Gh) (a : Nat) (h_a : τ a = 7) (v : Int32) (w : Int32) : MM l yX2_hasStore cX2_hasStore 3 (some .boolean) 1 0 0 D cy [.ref a, .int v, .int w] (PT D cy base τ G) (PuI (fun r => ((r = 1 ∧ 0 ≤ v.toInt ∧ v.toInt ≤ 5 ∧ 0 ≤ w.toInt ∧ w.toInt ≤ 2) ∨ (r = 0)))) noF := by
  refine MM.of (by decide) (Nat.le_of_ble_eq_true rfl) ?_
  intro p e s m below meth c C hPT ls hl
  obtain ⟨hx, hb, hr, hml, hown, hts, hlocks, hK, hnm⟩ := C
  obtain ⟨hZ, hT⟩ := hPT
  have hS : va_S (RA base) s.heap s.heap [] := va_S.rf
  have hl : lv_has ls 3 [(0, .ref a), (1, .int v), (2, .int w)] := hl
  refine lv_aload_n hx hb dX2_hasStore_0 rfl (lv_at hl 0 rfl) ?_
  refine lv_iload_n hx hb dX2_hasStore_1 rfl (lv_at hl 1 rfl) ?_
  refine pu_calli (runV (As := [.int v]) (rest := []) ⟨hx, hb, hml, hown, hts⟩ (t_X2_hasValley l D cy base τ G a h_a v) sV_X2_43 hK (t_recv cf_7 hK hT h_a) ⟨Nat.le_trans hZ hS.1, hT⟩ ⟨Nat.le_of_ble_eq_true rfl, Nat.le_of_ble_eq_true rfl⟩ rfl hl.1 rfl (Nat.le_of_ble_eq_true rfl) dX2_hasStore_2 ⟨Nat.le_of_ble_eq_true rfl, Nat.le_of_ble_eq_true rfl⟩) (fun r_1 hr_1 => ?_)
  have hr_1_c := hr_1
  rcases hr_1_c with hr_1_0 | hr_1_1
  · skip
    obtain ⟨er_1, hr_1_0_f0, hr_1_0_f1⟩ := hr_1_0
    have hr_1_0_f0 : 0 ≤ v.toInt := hr_1_0_f0
    have hr_1_0_f1 : v.toInt ≤ 5 := hr_1_0_f1
    subst er_1
    refine W.eq (g2 := F0 m 5 ls [.int 1]) rfl ?_
    refine lv_if_eq (tgt := 20) hx hb dX2_hasStore_5 (by decide) (fun c_2 => absurd c_2 (by decide)) (fun _ => ?_)
    refine lv_aload_n hx hb dX2_hasStore_8 rfl (lv_at hl 0 rfl) ?_
    refine lv_iload_n hx hb dX2_hasStore_9 rfl (lv_at hl 2 rfl) ?_
    refine pu_calli (runV (As := [.int w]) (rest := []) ⟨hx, hb, hml, hown, hts⟩ (t_X2_hasThing l D cy base τ G a h_a w) sV_X2_50 hK (t_recv cf_7 hK hT h_a) ⟨Nat.le_trans hZ hS.1, hT⟩ ⟨Nat.le_of_ble_eq_true rfl, Nat.le_of_ble_eq_true rfl⟩ rfl hl.1 rfl (Nat.le_of_ble_eq_true rfl) dX2_hasStore_10 ⟨Nat.le_of_ble_eq_true rfl, Nat.le_of_ble_eq_true rfl⟩) (fun r_3 hr_3 => ?_)
    have hr_3_c := hr_3
    rcases hr_3_c with hr_3_0 | hr_3_1
    · skip
      obtain ⟨er_3, hr_3_0_f0, hr_3_0_f1⟩ := hr_3_0
      have hr_3_0_f0 : 0 ≤ w.toInt := hr_3_0_f0
      have hr_3_0_f1 : w.toInt ≤ 2 := hr_3_0_f1
      subst er_3
      refine W.eq (g2 := F0 m 13 ls [.int 1]) rfl ?_
      refine lv_if_eq (tgt := 20) hx hb dX2_hasStore_13 (by decide) (fun c_4 => absurd c_4 (by decide)) (fun _ => ?_)
      refine lv_iconst (v := 1) hx hb dX2_hasStore_16 (by decide) ?_
      refine lv_goto (tgt := 21) hx hb dX2_hasStore_17 (by decide) ?_
      exact ret_z (ty := .boolean) hx hb hr rfl hlocks ⟨rfl, _, rfl, (Or.inl ⟨rfl, (by omega), (by omega), (by omega), (by omega)⟩)⟩ (fun _ h => absurd h List.not_mem_nil) (Nat.le_refl _) (Nat.le_refl _) dX2_hasStore_21
    · skip
      have er_3 := hr_3_1
      subst er_3
      refine W.eq (g2 := F0 m 13 ls [.int 0]) rfl ?_
      refine lv_if_eq (tgt := 20) hx hb dX2_hasStore_13 (by decide) (fun _ => ?_) (fun c_5 => absurd (by decide) c_5)
      refine lv_iconst (v := 0) hx hb dX2_hasStore_20 (by decide) ?_
      exact ret_z (ty := .boolean) hx hb hr rfl hlocks ⟨rfl, _, rfl, (Or.inr rfl)⟩ (fun _ h => absurd h List.not_mem_nil) (Nat.le_refl _) (Nat.le_refl _) dX2_hasStore_21
  · skip
    have er_1 := hr_1_1
    subst er_1
    refine W.eq (g2 := F0 m 5 ls [.int 0]) rfl ?_
    refine lv_if_eq (tgt := 20) hx hb dX2_hasStore_5 (by decide) (fun _ => ?_) (fun c_6 => absurd (by decide) c_6)
    refine lv_iconst (v := 0) hx hb dX2_hasStore_20 (by decide) ?_
    exact ret_z (ty := .boolean) hx hb hr rfl hlocks ⟨rfl, _, rfl, (Or.inr rfl)⟩ (fun _ h => absurd h List.not_mem_nil) (Nat.le_refl _) (Nat.le_refl _) dX2_hasStore_21
set_option maxHeartbeats 4000000 in
set_option maxRecDepth 100000 in
theorem t_X2_hasDay (l : Launch) (D : va_G) (cy : Nat → ClassId) (base : Nat) (τ : Nat → Nat) (G : Gh) (a : Nat) (h_a : τ a = 7) (v : Int32) : MM l yX2_hasDay cX2_hasDay 2 (some .boolean) 0 0 0 D cy [.ref a, .int v] (PT D cy base τ G) (PuI (fun r => ((r = 1 ∧ 1 ≤ v.toInt ∧ v.toInt ≤ 60) ∨ (r = 0)))) noF := by
  refine MM.of (by decide) (Nat.le_of_ble_eq_true rfl) ?_
  intro p e s m below meth c C hPT ls hl
  obtain ⟨hx, hb, hr, hml, hown, hts, hlocks, hK, hnm⟩ := C
  obtain ⟨hZ, hT⟩ := hPT
  have hS : va_S (RA base) s.heap s.heap [] := va_S.rf
  have hl : lv_has ls 2 [(0, .ref a), (1, .int v)] := hl
  refine lv_iload_n hx hb dX2_hasDay_0 rfl (lv_at hl 1 rfl) ?_
  refine lv_iconst (v := 1) hx hb dX2_hasDay_1 (by decide) ?_
  refine lv_icmp_lt (tgt := 17) hx hb dX2_hasDay_2 (by decide) (fun c_1 => ?_) (fun c_1 => ?_)
  · skip
    have tc_1 : v.toInt < 1 := (fa_lt _ _).mp c_1
    refine lv_iconst (v := 0) hx hb dX2_hasDay_17 (by decide) ?_
    exact ret_z (ty := .boolean) hx hb hr rfl hlocks ⟨rfl, _, rfl, (Or.inr rfl)⟩ (fun _ h => absurd h List.not_mem_nil) (Nat.le_refl _) (Nat.le_refl _) dX2_hasDay_18
  · skip
    have tc_1 : ¬ v.toInt < 1 := fun h => c_1 ((fa_lt _ _).mpr h)
    refine lv_iload_n hx hb dX2_hasDay_5 rfl (lv_at hl 1 rfl) ?_
    refine lv_aload_n hx hb dX2_hasDay_6 rfl (lv_at hl 0 rfl) ?_
    refine t_geti cf_7 hx hb hts hown hK hT h_a (k := 1) rfl fl_X2_53 (fun _ h9 => h9) dX2_hasDay_7 (fun z_2 ez_2 rz_2 => ?_)
    have ez_2 : z_2 = G.1 a 1 := ez_2
    have rz_2 : 0 ≤ z_2.toInt ∧ z_2.toInt ≤ 60 := rz_2
    refine lv_icmp_gt (tgt := 17) hx hb dX2_hasDay_10 (by decide) (fun c_3 => ?_) (fun c_3 => ?_)
    · skip
      have tc_3 : z_2.toInt < v.toInt := (fa_lt _ _).mp c_3
      have mc_3 : v.toInt ≤ 2147483647 := max_t v
      refine lv_iconst (v := 0) hx hb dX2_hasDay_17 (by decide) ?_
      exact ret_z (ty := .boolean) hx hb hr rfl hlocks ⟨rfl, _, rfl, (Or.inr rfl)⟩ (fun _ h => absurd h List.not_mem_nil) (Nat.le_refl _) (Nat.le_refl _) dX2_hasDay_18
    · skip
      have tc_3 : ¬ z_2.toInt < v.toInt := fun h => c_3 ((fa_lt _ _).mpr h)
      refine lv_iconst (v := 1) hx hb dX2_hasDay_13 (by decide) ?_
      refine lv_goto (tgt := 18) hx hb dX2_hasDay_14 (by decide) ?_
      exact ret_z (ty := .boolean) hx hb hr rfl hlocks ⟨rfl, _, rfl, (Or.inl ⟨rfl, (by omega), (by omega)⟩)⟩ (fun _ h => absurd h List.not_mem_nil) (Nat.le_refl _) (Nat.le_refl _) dX2_hasDay_18
set_option maxHeartbeats 4000000 in
set_option maxRecDepth 100000 in
theorem t_X2_hasDayOrNever (l : Launch) (D : va_G) (cy : Nat → ClassId) (base : Nat) (τ : Nat → Nat) (G : Gh) (a : Nat) (h_a : τ a = 7) (v : Int32) : MM l yX2_hasDayOrNever cX2_hasDayOrNever 2 (some .boolean) 0 0 0 D cy [.ref a, .int v] (PT D cy base τ G) (PuI (fun r => ((r = 1 ∧ 0 ≤ v.toInt ∧ v.toInt ≤ 60) ∨ (r = 0)))) noF := by
  refine MM.of (by decide) (Nat.le_of_ble_eq_true rfl) ?_
  intro p e s m below meth c C hPT ls hl
  obtain ⟨hx, hb, hr, hml, hown, hts, hlocks, hK, hnm⟩ := C
  obtain ⟨hZ, hT⟩ := hPT
  have hS : va_S (RA base) s.heap s.heap [] := va_S.rf
  have hl : lv_has ls 2 [(0, .ref a), (1, .int v)] := hl
  refine lv_iload_n hx hb dX2_hasDayOrNever_0 rfl (lv_at hl 1 rfl) ?_
  refine lv_if_lt (tgt := 16) hx hb dX2_hasDayOrNever_1 (by decide) (fun c_1 => ?_) (fun c_1 => ?_)
  · skip
    have tc_1 : v.toInt < 0 := (fa_lt _ _).mp c_1
    refine lv_iconst (v := 0) hx hb dX2_hasDayOrNever_16 (by decide) ?_
    exact ret_z (ty := .boolean) hx hb hr rfl hlocks ⟨rfl, _, rfl, (Or.inr rfl)⟩ (fun _ h => absurd h List.not_mem_nil) (Nat.le_refl _) (Nat.le_refl _) dX2_hasDayOrNever_17
  · skip
    have tc_1 : ¬ v.toInt < 0 := fun h => c_1 ((fa_lt _ _).mpr h)
    refine lv_iload_n hx hb dX2_hasDayOrNever_4 rfl (lv_at hl 1 rfl) ?_
    refine lv_aload_n hx hb dX2_hasDayOrNever_5 rfl (lv_at hl 0 rfl) ?_
    refine t_geti cf_7 hx hb hts hown hK hT h_a (k := 1) rfl fl_X2_53 (fun _ h9 => h9) dX2_hasDayOrNever_6 (fun z_2 ez_2 rz_2 => ?_)
    have ez_2 : z_2 = G.1 a 1 := ez_2
    have rz_2 : 0 ≤ z_2.toInt ∧ z_2.toInt ≤ 60 := rz_2
    refine lv_icmp_gt (tgt := 16) hx hb dX2_hasDayOrNever_9 (by decide) (fun c_3 => ?_) (fun c_3 => ?_)
    · skip
      have tc_3 : z_2.toInt < v.toInt := (fa_lt _ _).mp c_3
      have mc_3 : v.toInt ≤ 2147483647 := max_t v
      refine lv_iconst (v := 0) hx hb dX2_hasDayOrNever_16 (by decide) ?_
      exact ret_z (ty := .boolean) hx hb hr rfl hlocks ⟨rfl, _, rfl, (Or.inr rfl)⟩ (fun _ h => absurd h List.not_mem_nil) (Nat.le_refl _) (Nat.le_refl _) dX2_hasDayOrNever_17
    · skip
      have tc_3 : ¬ z_2.toInt < v.toInt := fun h => c_3 ((fa_lt _ _).mpr h)
      refine lv_iconst (v := 1) hx hb dX2_hasDayOrNever_12 (by decide) ?_
      refine lv_goto (tgt := 17) hx hb dX2_hasDayOrNever_13 (by decide) ?_
      exact ret_z (ty := .boolean) hx hb hr rfl hlocks ⟨rfl, _, rfl, (Or.inl ⟨rfl, (by omega), (by omega)⟩)⟩ (fun _ h => absurd h List.not_mem_nil) (Nat.le_refl _) (Nat.le_refl _) dX2_hasDayOrNever_17
set_option maxHeartbeats 4000000 in
set_option maxRecDepth 100000 in
theorem t_X2_hasBits (l : Launch) (D : va_G) (cy : Nat → ClassId) (base : Nat) (τ : Nat → Nat) (G : Gh) (a : Nat) (h_a : τ a = 7) (v : Int32) : MM l yX2_hasBits cX2_hasBits 2 (some .boolean) 0 0 0 D cy [.ref a, .int v] (PT D cy base τ G) (PuI (fun r => ((r = 1 ∧ 0 ≤ v.toInt ∧ v.toInt ≤ 63) ∨ (r = 0)))) noF := by
  refine MM.of (by decide) (Nat.le_of_ble_eq_true rfl) ?_
  intro p e s m below meth c C hPT ls hl
  obtain ⟨hx, hb, hr, hml, hown, hts, hlocks, hK, hnm⟩ := C
  obtain ⟨hZ, hT⟩ := hPT
  have hS : va_S (RA base) s.heap s.heap [] := va_S.rf
  have hl : lv_has ls 2 [(0, .ref a), (1, .int v)] := hl
  refine lv_iload_n hx hb dX2_hasBits_0 rfl (lv_at hl 1 rfl) ?_
  refine lv_if_lt (tgt := 18) hx hb dX2_hasBits_1 (by decide) (fun c_1 => ?_) (fun c_1 => ?_)
  · skip
    have tc_1 : v.toInt < 0 := (fa_lt _ _).mp c_1
    refine lv_iconst (v := 0) hx hb dX2_hasBits_18 (by decide) ?_
    exact ret_z (ty := .boolean) hx hb hr rfl hlocks ⟨rfl, _, rfl, (Or.inr rfl)⟩ (fun _ h => absurd h List.not_mem_nil) (Nat.le_refl _) (Nat.le_refl _) dX2_hasBits_19
  · skip
    have tc_1 : ¬ v.toInt < 0 := fun h => c_1 ((fa_lt _ _).mpr h)
    refine lv_iload_n hx hb dX2_hasBits_4 rfl (lv_at hl 1 rfl) ?_
    refine lv_iconst (v := 1) hx hb dX2_hasBits_5 (by decide) ?_
    refine lv_aload_n hx hb dX2_hasBits_6 rfl (lv_at hl 0 rfl) ?_
    refine t_geti cf_7 hx hb hts hown hK hT h_a (k := 6) rfl fl_X2_40 (fun _ h9 => h9) dX2_hasBits_7 (fun z_2 ez_2 rz_2 => ?_)
    have ez_2 : z_2 = G.1 a 6 := ez_2
    have rz_2 : 0 ≤ z_2.toInt ∧ z_2.toInt ≤ 6 := rz_2
    refine lv_ishl hx hb dX2_hasBits_10 ?_
    refine lv_topi (fun z_3 ez_3 => ?_)
    have tz_3 : 1 ≤ z_3.toInt ∧ z_3.toInt ≤ 64 := shl6_t ez_3 (by omega) (by omega)
    refine lv_icmp_ge (tgt := 18) hx hb dX2_hasBits_11 (by decide) (fun c_4 => ?_) (fun c_4 => ?_)
    · skip
      have tc_4 : z_3.toInt ≤ v.toInt := (fa_le _ _).mp c_4
      refine lv_iconst (v := 0) hx hb dX2_hasBits_18 (by decide) ?_
      exact ret_z (ty := .boolean) hx hb hr rfl hlocks ⟨rfl, _, rfl, (Or.inr rfl)⟩ (fun _ h => absurd h List.not_mem_nil) (Nat.le_refl _) (Nat.le_refl _) dX2_hasBits_19
    · skip
      have tc_4 : ¬ z_3.toInt ≤ v.toInt := fun h => c_4 ((fa_le _ _).mpr h)
      refine lv_iconst (v := 1) hx hb dX2_hasBits_14 (by decide) ?_
      refine lv_goto (tgt := 19) hx hb dX2_hasBits_15 (by decide) ?_
      exact ret_z (ty := .boolean) hx hb hr rfl hlocks ⟨rfl, _, rfl, (Or.inl ⟨rfl, (by omega), (by omega)⟩)⟩ (fun _ h => absurd h List.not_mem_nil) (Nat.le_refl _) (Nat.le_refl _) dX2_hasBits_19
set_option maxHeartbeats 4000000 in
set_option maxRecDepth 100000 in
theorem t_X2_chance (l : Launch) (D : va_G) (cy : Nat → ClassId) (base : Nat) (τ : Nat → Nat) (G : Gh) (a : Nat) (h_a : τ a = 7) (v : Int32) (w : Int32) : MM l yX2_chance cX2_chance 3 (some .int) 0 0 0 D cy [.ref a, .int v, .int w] (PT D cy base τ G) (PuI (fun r => True)) noF := by
  refine MM.of (by decide) (Nat.le_of_ble_eq_true rfl) ?_
  intro p e s m below meth c C hPT ls hl
  obtain ⟨hx, hb, hr, hml, hown, hts, hlocks, hK, hnm⟩ := C
  obtain ⟨hZ, hT⟩ := hPT
  have hS : va_S (RA base) s.heap s.heap [] := va_S.rf
  have hl : lv_has ls 3 [(0, .ref a), (1, .int v), (2, .int w)] := hl
  refine lv_iload_n hx hb dX2_chance_0 rfl (lv_at hl 1 rfl) ?_
  refine lv_iconst (v := 1) hx hb dX2_chance_1 (by decide) ?_
  refine lv_icmp_ne (tgt := 10) hx hb dX2_chance_2 (by decide) (fun c_1 => ?_) (fun c_1 => ?_)
  · skip
    have tc_1 : ¬ v.toInt = 1 := fun h => c_1 ((fa_eq _ _).mpr h)
    refine lv_iload_n hx hb dX2_chance_10 rfl (lv_at hl 2 rfl) ?_
    refine lv_if_eq (tgt := 21) hx hb dX2_chance_11 (by decide) (fun c_2 => ?_) (fun c_2 => ?_)
    · skip
      have tc_2 : w.toInt = 0 := (fa_eq _ _).mp c_2
      refine lv_aload_n hx hb dX2_chance_21 rfl (lv_at hl 0 rfl) ?_
      refine t_geti cf_7 hx hb hts hown hK hT h_a (k := 4) rfl fl_X2_62 (fun _ h9 => h9) dX2_chance_22 (fun z_3 ez_3 rz_3 => ?_)
      have ez_3 : z_3 = G.1 a 4 := ez_3
      exact ret_i hx hb hr hlocks ⟨rfl, _, rfl, trivial⟩ (fun _ h => absurd h List.not_mem_nil) (Nat.le_refl _) (Nat.le_refl _) dX2_chance_25
    · skip
      have tc_2 : ¬ w.toInt = 0 := fun h => c_2 ((fa_eq _ _).mpr h)
      refine lv_aload_n hx hb dX2_chance_14 rfl (lv_at hl 0 rfl) ?_
      refine t_geti cf_7 hx hb hts hown hK hT h_a (k := 3) rfl fl_X2_59 (fun _ h9 => h9) dX2_chance_15 (fun z_4 ez_4 rz_4 => ?_)
      have ez_4 : z_4 = G.1 a 3 := ez_4
      refine lv_goto (tgt := 25) hx hb dX2_chance_18 (by decide) ?_
      exact ret_i hx hb hr hlocks ⟨rfl, _, rfl, trivial⟩ (fun _ h => absurd h List.not_mem_nil) (Nat.le_refl _) (Nat.le_refl _) dX2_chance_25
  · skip
    have tc_1 : v.toInt = 1 := (fa_eq _ _).mp c_1
    refine lv_aload_n hx hb dX2_chance_5 rfl (lv_at hl 0 rfl) ?_
    refine t_geti cf_7 hx hb hts hown hK hT h_a (k := 2) rfl fl_X2_56 (fun _ h9 => h9) dX2_chance_6 (fun z_5 ez_5 rz_5 => ?_)
    have ez_5 : z_5 = G.1 a 2 := ez_5
    exact ret_i hx hb hr hlocks ⟨rfl, _, rfl, trivial⟩ (fun _ h => absurd h List.not_mem_nil) (Nat.le_refl _) (Nat.le_refl _) dX2_chance_9
set_option maxHeartbeats 4000000 in
set_option maxRecDepth 100000 in
theorem t_X2_eaten (l : Launch) (D : va_G) (cy : Nat → ClassId) (base : Nat) (τ : Nat → Nat) (G : Gh) (a : Nat) (h_a : τ a = 7) (v : Int32) (w : Int32) : MM l yX2_eaten cX2_eaten 4 (some .int) 0 0 0 D cy [.ref a, .int v, .int w] (PT D cy base τ G) (PuI (fun r => True)) noF := by
  refine MM.of (by decide) (Nat.le_of_ble_eq_true rfl) ?_
  intro p e s m below meth c C hPT ls hl
  obtain ⟨hx, hb, hr, hml, hown, hts, hlocks, hK, hnm⟩ := C
  obtain ⟨hZ, hT⟩ := hPT
  have hS : va_S (RA base) s.heap s.heap [] := va_S.rf
  have hl : lv_has ls 4 [(0, .ref a), (1, .int v), (2, .int w)] := hl
  refine lv_iload_n hx hb dX2_eaten_0 rfl (lv_at hl 1 rfl) ?_
  refine lv_if_lt (tgt := 28) hx hb dX2_eaten_1 (by decide) (fun c_1 => ?_) (fun c_1 => ?_)
  · skip
    have tc_1 : v.toInt < 0 := (fa_lt _ _).mp c_1
    refine lv_iconst (v := 0) hx hb dX2_eaten_28 (by decide) ?_
    refine lv_istore_n (lv' := [(3, .int 0), (0, .ref a), (1, .int v), (2, .int w)]) hx hb dX2_eaten_29 rfl hl (by decide) rfl (fun ls hl => ?_)
    refine lv_iload_n hx hb dX2_eaten_30 rfl (lv_at hl 0 rfl) ?_
    refine lv_if_eq (tgt := 47) hx hb dX2_eaten_31 (by decide) (fun _ => ?_) (fun c_2 => absurd (by decide) c_2)
    refine lv_iconst (v := 0) hx hb dX2_eaten_47 (by decide) ?_
    exact ret_i hx hb hr hlocks ⟨rfl, _, rfl, trivial⟩ (fun _ h => absurd h List.not_mem_nil) (Nat.le_refl _) (Nat.le_refl _) dX2_eaten_48
  · skip
    have tc_1 : ¬ v.toInt < 0 := fun h => c_1 ((fa_lt _ _).mpr h)
    refine lv_iload_n hx hb dX2_eaten_4 rfl (lv_at hl 1 rfl) ?_
    refine lv_aload_n hx hb dX2_eaten_5 rfl (lv_at hl 0 rfl) ?_
    refine t_geti cf_7 hx hb hts hown hK hT h_a (k := 6) rfl fl_X2_40 (fun _ h9 => h9) dX2_eaten_6 (fun z_3 ez_3 rz_3 => ?_)
    have ez_3 : z_3 = G.1 a 6 := ez_3
    have rz_3 : 0 ≤ z_3.toInt ∧ z_3.toInt ≤ 6 := rz_3
    refine lv_icmp_ge (tgt := 28) hx hb dX2_eaten_9 (by decide) (fun c_4 => ?_) (fun c_4 => ?_)
    · skip
      have tc_4 : z_3.toInt ≤ v.toInt := (fa_le _ _).mp c_4
      refine lv_iconst (v := 0) hx hb dX2_eaten_28 (by decide) ?_
      refine lv_istore_n (lv' := [(3, .int 0), (0, .ref a), (1, .int v), (2, .int w)]) hx hb dX2_eaten_29 rfl hl (by decide) rfl (fun ls hl => ?_)
      refine lv_iload_n hx hb dX2_eaten_30 rfl (lv_at hl 0 rfl) ?_
      refine lv_if_eq (tgt := 47) hx hb dX2_eaten_31 (by decide) (fun _ => ?_) (fun c_5 => absurd (by decide) c_5)
      refine lv_iconst (v := 0) hx hb dX2_eaten_47 (by decide) ?_
      exact ret_i hx hb hr hlocks ⟨rfl, _, rfl, trivial⟩ (fun _ h => absurd h List.not_mem_nil) (Nat.le_refl _) (Nat.le_refl _) dX2_eaten_48
    · skip
      have tc_4 : ¬ z_3.toInt ≤ v.toInt := fun h => c_4 ((fa_le _ _).mpr h)
      refine lv_iload_n hx hb dX2_eaten_12 rfl (lv_at hl 2 rfl) ?_
      refine lv_if_lt (tgt := 28) hx hb dX2_eaten_13 (by decide) (fun c_6 => ?_) (fun c_6 => ?_)
      · skip
        have tc_6 : w.toInt < 0 := (fa_lt _ _).mp c_6
        refine lv_iconst (v := 0) hx hb dX2_eaten_28 (by decide) ?_
        refine lv_istore_n (lv' := [(3, .int 0), (0, .ref a), (1, .int v), (2, .int w)]) hx hb dX2_eaten_29 rfl hl (by decide) rfl (fun ls hl => ?_)
        refine lv_iload_n hx hb dX2_eaten_30 rfl (lv_at hl 0 rfl) ?_
        refine lv_if_eq (tgt := 47) hx hb dX2_eaten_31 (by decide) (fun _ => ?_) (fun c_7 => absurd (by decide) c_7)
        refine lv_iconst (v := 0) hx hb dX2_eaten_47 (by decide) ?_
        exact ret_i hx hb hr hlocks ⟨rfl, _, rfl, trivial⟩ (fun _ h => absurd h List.not_mem_nil) (Nat.le_refl _) (Nat.le_refl _) dX2_eaten_48
      · skip
        have tc_6 : ¬ w.toInt < 0 := fun h => c_6 ((fa_lt _ _).mpr h)
        refine lv_iload_n hx hb dX2_eaten_16 rfl (lv_at hl 2 rfl) ?_
        refine lv_aload_n hx hb dX2_eaten_17 rfl (lv_at hl 0 rfl) ?_
        refine t_geti cf_7 hx hb hts hown hK hT h_a (k := 5) rfl fl_X2_47 (fun _ h9 => h9) dX2_eaten_18 (fun z_8 ez_8 rz_8 => ?_)
        have ez_8 : z_8 = G.1 a 5 := ez_8
        have rz_8 : 0 ≤ z_8.toInt ∧ z_8.toInt ≤ 3 := rz_8
        refine lv_icmp_ge (tgt := 28) hx hb dX2_eaten_21 (by decide) (fun c_9 => ?_) (fun c_9 => ?_)
        · skip
          have tc_9 : z_8.toInt ≤ w.toInt := (fa_le _ _).mp c_9
          refine lv_iconst (v := 0) hx hb dX2_eaten_28 (by decide) ?_
          refine lv_istore_n (lv' := [(3, .int 0), (0, .ref a), (1, .int v), (2, .int w)]) hx hb dX2_eaten_29 rfl hl (by decide) rfl (fun ls hl => ?_)
          refine lv_iload_n hx hb dX2_eaten_30 rfl (lv_at hl 0 rfl) ?_
          refine lv_if_eq (tgt := 47) hx hb dX2_eaten_31 (by decide) (fun _ => ?_) (fun c_10 => absurd (by decide) c_10)
          refine lv_iconst (v := 0) hx hb dX2_eaten_47 (by decide) ?_
          exact ret_i hx hb hr hlocks ⟨rfl, _, rfl, trivial⟩ (fun _ h => absurd h List.not_mem_nil) (Nat.le_refl _) (Nat.le_refl _) dX2_eaten_48
        · skip
          have tc_9 : ¬ z_8.toInt ≤ w.toInt := fun h => c_9 ((fa_le _ _).mpr h)
          refine lv_iconst (v := 1) hx hb dX2_eaten_24 (by decide) ?_
          refine lv_goto (tgt := 29) hx hb dX2_eaten_25 (by decide) ?_
          refine lv_istore_n (lv' := [(3, .int 1), (0, .ref a), (1, .int v), (2, .int w)]) hx hb dX2_eaten_29 rfl hl (by decide) rfl (fun ls hl => ?_)
          refine lv_iload_n hx hb dX2_eaten_30 rfl (lv_at hl 0 rfl) ?_
          refine lv_if_eq (tgt := 47) hx hb dX2_eaten_31 (by decide) (fun c_11 => absurd c_11 (by decide)) (fun _ => ?_)
          refine lv_aload_n hx hb dX2_eaten_34 rfl (lv_at hl 1 rfl) ?_
          refine t_getr cf_7 hx hb hts hown hK hT h_a (k := 19) (P := fun q => τ q = 28) rfl (fun _ h9 => h9) fl_X2_34 (fun _ h9 => h9) dX2_eaten_35 (fun q_12 eq_12 hq_12 => ?_)
          refine lv_iload_n hx hb dX2_eaten_38 rfl (lv_at hl 2 rfl) ?_
          refine lv_iconst (v := 3) hx hb dX2_eaten_39 (by decide) ?_
          refine lv_imul hx hb dX2_eaten_40 ?_
          refine lv_topi (fun z_13 ez_13 => ?_)
          have tz_13 : z_13.toInt = v.toInt * 3 := mul_t ez_13 (show -2147483648 ≤ v.toInt * 3 by omega) (show v.toInt * 3 < 2147483648 by omega)
          refine lv_iload_n hx hb dX2_eaten_41 rfl (lv_at hl 3 rfl) ?_
          refine lv_iadd hx hb dX2_eaten_42 ?_
          refine lv_topi (fun z_14 ez_14 => ?_)
          have tz_14 : z_14.toInt = z_13.toInt + w.toInt := add_t ez_14 (show -2147483648 ≤ z_13.toInt + w.toInt by omega) (show z_13.toInt + w.toInt < 2147483648 by omega)
          refine t_iald (n := 18) (i := z_14) rfl (by decide) hx hb hK hT hq_12 (hT.len hq_12 (by decide)) ⟨by omega, by omega⟩ dX2_eaten_43 (fun z_15 ez_15 rz_15 => ?_)
          refine lv_goto (tgt := 48) hx hb dX2_eaten_44 (by decide) ?_
          exact ret_i hx hb hr hlocks ⟨rfl, _, rfl, trivial⟩ (fun _ h => absurd h List.not_mem_nil) (Nat.le_refl _) (Nat.le_refl _) dX2_eaten_48
set_option maxHeartbeats 4000000 in
set_option maxRecDepth 100000 in
theorem t_X2_wanted (l : Launch) (D : va_G) (cy : Nat → ClassId) (base : Nat) (τ : Nat → Nat) (G : Gh) (a : Nat) (h_a : τ a = 7) (v : Int32) (w : Int32) (z : Int32) : MM l yX2_wanted cX2_wanted 4 (some .int) 1 0 0 D cy [.ref a, .int v, .int w, .int z] (PT D cy base τ G) (PuI (fun r => True)) noF := by
  refine MM.of (by decide) (Nat.le_of_ble_eq_true rfl) ?_
  intro p e s m below meth c C hPT ls hl
  obtain ⟨hx, hb, hr, hml, hown, hts, hlocks, hK, hnm⟩ := C
  obtain ⟨hZ, hT⟩ := hPT
  have hS : va_S (RA base) s.heap s.heap [] := va_S.rf
  have hl : lv_has ls 4 [(0, .ref a), (1, .int v), (2, .int w), (3, .int z)] := hl
  refine lv_iload_n hx hb dX2_wanted_0 rfl (lv_at hl 3 rfl) ?_
  refine lv_if_ne (tgt := 8) hx hb dX2_wanted_1 (by decide) (fun c_1 => ?_) (fun c_1 => ?_)
  · skip
    have tc_1 : ¬ z.toInt = 0 := fun h => c_1 ((fa_eq _ _).mpr h)
    refine lv_aload_n hx hb dX2_wanted_8 rfl (lv_at hl 0 rfl) ?_
    refine lv_iload_n hx hb dX2_wanted_9 rfl (lv_at hl 1 rfl) ?_
    refine lv_iload_n hx hb dX2_wanted_10 rfl (lv_at hl 2 rfl) ?_
    refine pu_calli (runV (As := [.int v, .int w]) (rest := []) ⟨hx, hb, hml, hown, hts⟩ (t_X2_eaten l D cy base τ G a h_a v w) sV_X2_65 hK (t_recv cf_7 hK hT h_a) ⟨Nat.le_trans hZ hS.1, hT⟩ ⟨Nat.le_of_ble_eq_true rfl, Nat.le_of_ble_eq_true rfl⟩ rfl hl.1 rfl (Nat.le_of_ble_eq_true rfl) dX2_wanted_11 ⟨Nat.le_of_ble_eq_true rfl, Nat.le_of_ble_eq_true rfl⟩) (fun r_2 hr_2 => ?_)
    refine lv_aload_n hx hb dX2_wanted_14 rfl (lv_at hl 0 rfl) ?_
    refine t_geti cf_7 hx hb hts hown hK hT h_a (k := 1) rfl fl_X2_53 (fun _ h9 => h9) dX2_wanted_15 (fun z_3 ez_3 rz_3 => ?_)
    have ez_3 : z_3 = G.1 a 1 := ez_3
    have rz_3 : 0 ≤ z_3.toInt ∧ z_3.toInt ≤ 60 := rz_3
    refine lv_iload_n hx hb dX2_wanted_18 rfl (lv_at hl 3 rfl) ?_
    refine lv_isub hx hb dX2_wanted_19 ?_
    refine lv_topi (fun z_4 ez_4 => ?_)
    refine lv_imul hx hb dX2_wanted_20 ?_
    refine lv_topi (fun z_5 ez_5 => ?_)
    exact ret_i hx hb hr hlocks ⟨rfl, _, rfl, trivial⟩ (fun _ h => absurd h List.not_mem_nil) (Nat.le_refl _) (Nat.le_refl _) dX2_wanted_21
  · skip
    have tc_1 : z.toInt = 0 := (fa_eq _ _).mp c_1
    refine lv_iconst (v := 0) hx hb dX2_wanted_4 (by decide) ?_
    refine lv_goto (tgt := 21) hx hb dX2_wanted_5 (by decide) ?_
    exact ret_i hx hb hr hlocks ⟨rfl, _, rfl, trivial⟩ (fun _ h => absurd h List.not_mem_nil) (Nat.le_refl _) (Nat.le_refl _) dX2_wanted_21
set_option maxHeartbeats 4000000 in
set_option maxRecDepth 100000 in
theorem t_X2_pathBetween (l : Launch) (D : va_G) (cy : Nat → ClassId) (base : Nat) (τ : Nat → Nat) (G : Gh) (a : Nat) (h_a : τ a = 7) (v : Int32) (w : Int32) : MM l yX2_pathBetween cX2_pathBetween 3 (some .int) 2 0 0 D cy [.ref a, .int v, .int w] (PT D cy base τ G) (PuI (fun r => True)) noF := by
  refine MM.of (by decide) (Nat.le_of_ble_eq_true rfl) ?_
  intro p e s m below meth c C hPT ls hl
  obtain ⟨hx, hb, hr, hml, hown, hts, hlocks, hK, hnm⟩ := C
  obtain ⟨hZ, hT⟩ := hPT
  have hS : va_S (RA base) s.heap s.heap [] := va_S.rf
  have hl : lv_has ls 3 [(0, .ref a), (1, .int v), (2, .int w)] := hl
  refine lv_aload_n hx hb dX2_pathBetween_0 rfl (lv_at hl 0 rfl) ?_
  refine lv_iload_n hx hb dX2_pathBetween_1 rfl (lv_at hl 1 rfl) ?_
  refine lv_iload_n hx hb dX2_pathBetween_2 rfl (lv_at hl 2 rfl) ?_
  refine pu_calli (runV (As := [.int v, .int w]) (rest := []) ⟨hx, hb, hml, hown, hts⟩ (t_X2_hasTwo l D cy base τ G a h_a v w) sV_X2_69 hK (t_recv cf_7 hK hT h_a) ⟨Nat.le_trans hZ hS.1, hT⟩ ⟨Nat.le_of_ble_eq_true rfl, Nat.le_of_ble_eq_true rfl⟩ rfl hl.1 rfl (Nat.le_of_ble_eq_true rfl) dX2_pathBetween_3 ⟨Nat.le_of_ble_eq_true rfl, Nat.le_of_ble_eq_true rfl⟩) (fun r_1 hr_1 => ?_)
  have hr_1_c := hr_1
  rcases hr_1_c with hr_1_0 | hr_1_1
  · skip
    obtain ⟨er_1, hr_1_0_f0, hr_1_0_f1, hr_1_0_f2, hr_1_0_f3⟩ := hr_1_0
    have hr_1_0_f0 : 0 ≤ v.toInt := hr_1_0_f0
    have hr_1_0_f1 : v.toInt ≤ 5 := hr_1_0_f1
    have hr_1_0_f2 : 0 ≤ w.toInt := hr_1_0_f2
    have hr_1_0_f3 : w.toInt ≤ 5 := hr_1_0_f3
    subst er_1
    refine W.eq (g2 := F0 m 6 ls [.int 1]) rfl ?_
    refine lv_if_eq (tgt := 23) hx hb dX2_pathBetween_6 (by decide) (fun c_2 => absurd c_2 (by decide)) (fun _ => ?_)
    refine lv_aload_n hx hb dX2_pathBetween_9 rfl (lv_at hl 0 rfl) ?_
    refine t_getr cf_7 hx hb hts hown hK hT h_a (k := 20) (P := fun q => τ q = 29) rfl (fun _ h9 => h9) fl_X2_37 (fun _ h9 => h9) dX2_pathBetween_10 (fun q_3 eq_3 hq_3 => ?_)
    refine lv_iload_n hx hb dX2_pathBetween_13 rfl (lv_at hl 1 rfl) ?_
    refine lv_bipush (v := 6) hx hb dX2_pathBetween_14 (by decide) ?_
    refine lv_imul hx hb dX2_pathBetween_16 ?_
    refine lv_topi (fun z_4 ez_4 => ?_)
    have tz_4 : z_4.toInt = v.toInt * 6 := mul_t ez_4 (show -2147483648 ≤ v.toInt * 6 by omega) (show v.toInt * 6 < 2147483648 by omega)
    refine lv_iload_n hx hb dX2_pathBetween_17 rfl (lv_at hl 2 rfl) ?_
    refine lv_iadd hx hb dX2_pathBetween_18 ?_
    refine lv_topi (fun z_5 ez_5 => ?_)
    have tz_5 : z_5.toInt = z_4.toInt + w.toInt := add_t ez_5 (show -2147483648 ≤ z_4.toInt + w.toInt by omega) (show z_4.toInt + w.toInt < 2147483648 by omega)
    refine t_iald (n := 36) (i := z_5) rfl (by decide) hx hb hK hT hq_3 (hT.len hq_3 (by decide)) ⟨by omega, by omega⟩ dX2_pathBetween_19 (fun z_6 ez_6 rz_6 => ?_)
    refine lv_goto (tgt := 24) hx hb dX2_pathBetween_20 (by decide) ?_
    exact ret_i hx hb hr hlocks ⟨rfl, _, rfl, trivial⟩ (fun _ h => absurd h List.not_mem_nil) (Nat.le_refl _) (Nat.le_refl _) dX2_pathBetween_24
  · skip
    have er_1 := hr_1_1
    subst er_1
    refine W.eq (g2 := F0 m 6 ls [.int 0]) rfl ?_
    refine lv_if_eq (tgt := 23) hx hb dX2_pathBetween_6 (by decide) (fun _ => ?_) (fun c_7 => absurd (by decide) c_7)
    refine lv_iconst (v := 0) hx hb dX2_pathBetween_23 (by decide) ?_
    exact ret_i hx hb hr hlocks ⟨rfl, _, rfl, trivial⟩ (fun _ h => absurd h List.not_mem_nil) (Nat.le_refl _) (Nat.le_refl _) dX2_pathBetween_24
set_option maxHeartbeats 4000000 in
set_option maxRecDepth 100000 in
theorem t_X2_fedDays (l : Launch) (D : va_G) (cy : Nat → ClassId) (base : Nat) (τ : Nat → Nat) (G : Gh) (a : Nat) (h_a : τ a = 7) (v : Int32) (w : Int32) (y : Int32) (z : Int32) : MM l yX2_fedDays cX2_fedDays 6 (some .int) 3 0 0 D cy [.ref a, .int v, .int w, .int y, .int z] (PT D cy base τ G) (PuI (fun r => True)) noF := by
  refine MM.of (by decide) (Nat.le_of_ble_eq_true rfl) ?_
  intro p e s m below meth c C hPT ls hl
  obtain ⟨hx, hb, hr, hml, hown, hts, hlocks, hK, hnm⟩ := C
  obtain ⟨hZ, hT⟩ := hPT
  have hS : va_S (RA base) s.heap s.heap [] := va_S.rf
  have hl : lv_has ls 6 [(0, .ref a), (1, .int v), (2, .int w), (3, .int y), (4, .int z)] := hl
  refine lv_iload_n hx hb dX2_fedDays_0 rfl (lv_at hl 3 rfl) ?_
  refine lv_if_eq (tgt := 15) hx hb dX2_fedDays_1 (by decide) (fun c_1 => ?_) (fun c_1 => ?_)
  · skip
    have tc_1 : y.toInt = 0 := (fa_eq _ _).mp c_1
    refine lv_iconst (v := 0) hx hb dX2_fedDays_15 (by decide) ?_
    exact ret_i hx hb hr hlocks ⟨rfl, _, rfl, trivial⟩ (fun _ h => absurd h List.not_mem_nil) (Nat.le_refl _) (Nat.le_refl _) dX2_fedDays_16
  · skip
    have tc_1 : ¬ y.toInt = 0 := fun h => c_1 ((fa_eq _ _).mpr h)
    refine lv_iload hx hb dX2_fedDays_4 (lv_at hl 4 rfl) ?_
    refine lv_if_eq (tgt := 17) hx hb dX2_fedDays_6 (by decide) (fun c_2 => ?_) (fun c_2 => ?_)
    · skip
      have tc_2 : z.toInt = 0 := (fa_eq _ _).mp c_2
      refine lv_iload hx hb dX2_fedDays_17 (lv_at hl 4 rfl) ?_
      refine lv_if_ne (tgt := 29) hx hb dX2_fedDays_19 (by decide) (fun c_3 => ?_) (fun c_3 => ?_)
      · skip
        have tc_3 : ¬ z.toInt = 0 := fun h => c_3 ((fa_eq _ _).mpr h)
        exfalso; omega
      · skip
        have tc_3 : z.toInt = 0 := (fa_eq _ _).mp c_3
        refine lv_aload_n hx hb dX2_fedDays_22 rfl (lv_at hl 0 rfl) ?_
        refine t_geti cf_7 hx hb hts hown hK hT h_a (k := 1) rfl fl_X2_53 (fun _ h9 => h9) dX2_fedDays_23 (fun z_4 ez_4 rz_4 => ?_)
        have ez_4 : z_4 = G.1 a 1 := ez_4
        have rz_4 : 0 ≤ z_4.toInt ∧ z_4.toInt ≤ 60 := rz_4
        refine lv_goto (tgt := 31) hx hb dX2_fedDays_26 (by decide) ?_
        refine lv_istore (lv' := [(5, .int z_4), (0, .ref a), (1, .int v), (2, .int w), (3, .int y), (4, .int z)]) hx hb dX2_fedDays_31 hl (by decide) rfl (fun ls hl => ?_)
        refine lv_aload_n hx hb dX2_fedDays_33 rfl (lv_at hl 1 rfl) ?_
        refine lv_iload_n hx hb dX2_fedDays_34 rfl (lv_at hl 2 rfl) ?_
        refine lv_iload_n hx hb dX2_fedDays_35 rfl (lv_at hl 3 rfl) ?_
        refine pu_calli (runV (As := [.int v, .int w]) (rest := []) ⟨hx, hb, hml, hown, hts⟩ (t_X2_pathBetween l D cy base τ G a h_a v w) sV_X2_73 hK (t_recv cf_7 hK hT h_a) ⟨Nat.le_trans hZ hS.1, hT⟩ ⟨Nat.le_of_ble_eq_true rfl, Nat.le_of_ble_eq_true rfl⟩ rfl hl.1 rfl (Nat.le_of_ble_eq_true rfl) dX2_fedDays_36 ⟨Nat.le_of_ble_eq_true rfl, Nat.le_of_ble_eq_true rfl⟩) (fun r_5 hr_5 => ?_)
        refine lv_iload hx hb dX2_fedDays_39 (lv_at hl 0 rfl) ?_
        refine lv_iload_n hx hb dX2_fedDays_41 rfl (lv_at hl 4 rfl) ?_
        refine lv_isub hx hb dX2_fedDays_42 ?_
        refine lv_topi (fun z_6 ez_6 => ?_)
        refine va_mmin hx hb (by rw [hml]; exact hl.1.symm) hown (hts _ ml_X2_76) (hts _ st_math_min) (hts _ ini_J9) (hts _ co_math_min) (Nat.le_of_ble_eq_true rfl) (Nat.le_of_ble_eq_true rfl) (Nat.le_of_ble_eq_true rfl) (Nat.le_of_ble_eq_true rfl) dX2_fedDays_43 ?_
        refine lv_topi (fun z_7 ez_7 => ?_)
        have tz_7 : (r_5.toInt ≥ z_7.toInt ∧ z_6.toInt ≥ z_7.toInt ∧ (z_7.toInt = r_5.toInt ∨ z_7.toInt = z_6.toInt)) := mmin_t ez_7
        exact ret_i hx hb hr hlocks ⟨rfl, _, rfl, trivial⟩ (fun _ h => absurd h List.not_mem_nil) (Nat.le_refl _) (Nat.le_refl _) dX2_fedDays_46
    · skip
      have tc_2 : ¬ z.toInt = 0 := fun h => c_2 ((fa_eq _ _).mpr h)
      refine lv_iload hx hb dX2_fedDays_9 (lv_at hl 4 rfl) ?_
      refine lv_iload_n hx hb dX2_fedDays_11 rfl (lv_at hl 3 rfl) ?_
      refine lv_icmp_gt (tgt := 17) hx hb dX2_fedDays_12 (by decide) (fun c_8 => ?_) (fun c_8 => ?_)
      · skip
        have tc_8 : y.toInt < z.toInt := (fa_lt _ _).mp c_8
        have mc_8 : z.toInt ≤ 2147483647 := max_t z
        refine lv_iload hx hb dX2_fedDays_17 (lv_at hl 4 rfl) ?_
        refine lv_if_ne (tgt := 29) hx hb dX2_fedDays_19 (by decide) (fun c_9 => ?_) (fun c_9 => ?_)
        · skip
          have tc_9 : ¬ z.toInt = 0 := fun h => c_9 ((fa_eq _ _).mpr h)
          refine lv_iload hx hb dX2_fedDays_29 (lv_at hl 4 rfl) ?_
          refine lv_istore (lv' := [(5, .int z), (0, .ref a), (1, .int v), (2, .int w), (3, .int y), (4, .int z)]) hx hb dX2_fedDays_31 hl (by decide) rfl (fun ls hl => ?_)
          refine lv_aload_n hx hb dX2_fedDays_33 rfl (lv_at hl 1 rfl) ?_
          refine lv_iload_n hx hb dX2_fedDays_34 rfl (lv_at hl 2 rfl) ?_
          refine lv_iload_n hx hb dX2_fedDays_35 rfl (lv_at hl 3 rfl) ?_
          refine pu_calli (runV (As := [.int v, .int w]) (rest := []) ⟨hx, hb, hml, hown, hts⟩ (t_X2_pathBetween l D cy base τ G a h_a v w) sV_X2_73 hK (t_recv cf_7 hK hT h_a) ⟨Nat.le_trans hZ hS.1, hT⟩ ⟨Nat.le_of_ble_eq_true rfl, Nat.le_of_ble_eq_true rfl⟩ rfl hl.1 rfl (Nat.le_of_ble_eq_true rfl) dX2_fedDays_36 ⟨Nat.le_of_ble_eq_true rfl, Nat.le_of_ble_eq_true rfl⟩) (fun r_10 hr_10 => ?_)
          refine lv_iload hx hb dX2_fedDays_39 (lv_at hl 0 rfl) ?_
          refine lv_iload_n hx hb dX2_fedDays_41 rfl (lv_at hl 4 rfl) ?_
          refine lv_isub hx hb dX2_fedDays_42 ?_
          refine lv_topi (fun z_11 ez_11 => ?_)
          refine va_mmin hx hb (by rw [hml]; exact hl.1.symm) hown (hts _ ml_X2_76) (hts _ st_math_min) (hts _ ini_J9) (hts _ co_math_min) (Nat.le_of_ble_eq_true rfl) (Nat.le_of_ble_eq_true rfl) (Nat.le_of_ble_eq_true rfl) (Nat.le_of_ble_eq_true rfl) dX2_fedDays_43 ?_
          refine lv_topi (fun z_12 ez_12 => ?_)
          have tz_12 : (r_10.toInt ≥ z_12.toInt ∧ z_11.toInt ≥ z_12.toInt ∧ (z_12.toInt = r_10.toInt ∨ z_12.toInt = z_11.toInt)) := mmin_t ez_12
          exact ret_i hx hb hr hlocks ⟨rfl, _, rfl, trivial⟩ (fun _ h => absurd h List.not_mem_nil) (Nat.le_refl _) (Nat.le_refl _) dX2_fedDays_46
        · skip
          have tc_9 : z.toInt = 0 := (fa_eq _ _).mp c_9
          refine lv_aload_n hx hb dX2_fedDays_22 rfl (lv_at hl 0 rfl) ?_
          refine t_geti cf_7 hx hb hts hown hK hT h_a (k := 1) rfl fl_X2_53 (fun _ h9 => h9) dX2_fedDays_23 (fun z_13 ez_13 rz_13 => ?_)
          have ez_13 : z_13 = G.1 a 1 := ez_13
          have rz_13 : 0 ≤ z_13.toInt ∧ z_13.toInt ≤ 60 := rz_13
          refine lv_goto (tgt := 31) hx hb dX2_fedDays_26 (by decide) ?_
          refine lv_istore (lv' := [(5, .int z_13), (0, .ref a), (1, .int v), (2, .int w), (3, .int y), (4, .int z)]) hx hb dX2_fedDays_31 hl (by decide) rfl (fun ls hl => ?_)
          refine lv_aload_n hx hb dX2_fedDays_33 rfl (lv_at hl 1 rfl) ?_
          refine lv_iload_n hx hb dX2_fedDays_34 rfl (lv_at hl 2 rfl) ?_
          refine lv_iload_n hx hb dX2_fedDays_35 rfl (lv_at hl 3 rfl) ?_
          refine pu_calli (runV (As := [.int v, .int w]) (rest := []) ⟨hx, hb, hml, hown, hts⟩ (t_X2_pathBetween l D cy base τ G a h_a v w) sV_X2_73 hK (t_recv cf_7 hK hT h_a) ⟨Nat.le_trans hZ hS.1, hT⟩ ⟨Nat.le_of_ble_eq_true rfl, Nat.le_of_ble_eq_true rfl⟩ rfl hl.1 rfl (Nat.le_of_ble_eq_true rfl) dX2_fedDays_36 ⟨Nat.le_of_ble_eq_true rfl, Nat.le_of_ble_eq_true rfl⟩) (fun r_14 hr_14 => ?_)
          refine lv_iload hx hb dX2_fedDays_39 (lv_at hl 0 rfl) ?_
          refine lv_iload_n hx hb dX2_fedDays_41 rfl (lv_at hl 4 rfl) ?_
          refine lv_isub hx hb dX2_fedDays_42 ?_
          refine lv_topi (fun z_15 ez_15 => ?_)
          refine va_mmin hx hb (by rw [hml]; exact hl.1.symm) hown (hts _ ml_X2_76) (hts _ st_math_min) (hts _ ini_J9) (hts _ co_math_min) (Nat.le_of_ble_eq_true rfl) (Nat.le_of_ble_eq_true rfl) (Nat.le_of_ble_eq_true rfl) (Nat.le_of_ble_eq_true rfl) dX2_fedDays_43 ?_
          refine lv_topi (fun z_16 ez_16 => ?_)
          have tz_16 : (r_14.toInt ≥ z_16.toInt ∧ z_15.toInt ≥ z_16.toInt ∧ (z_16.toInt = r_14.toInt ∨ z_16.toInt = z_15.toInt)) := mmin_t ez_16
          exact ret_i hx hb hr hlocks ⟨rfl, _, rfl, trivial⟩ (fun _ h => absurd h List.not_mem_nil) (Nat.le_refl _) (Nat.le_refl _) dX2_fedDays_46
      · skip
        have tc_8 : ¬ y.toInt < z.toInt := fun h => c_8 ((fa_lt _ _).mpr h)
        refine lv_iconst (v := 0) hx hb dX2_fedDays_15 (by decide) ?_
        exact ret_i hx hb hr hlocks ⟨rfl, _, rfl, trivial⟩ (fun _ h => absurd h List.not_mem_nil) (Nat.le_refl _) (Nat.le_refl _) dX2_fedDays_16
set_option maxHeartbeats 4000000 in
set_option maxRecDepth 100000 in
theorem t_X2_loadsOf (l : Launch) (D : va_G) (cy : Nat → ClassId) (base : Nat) (τ : Nat → Nat) (G : Gh) (a : Nat) (h_a : τ a = 7) (v : Int32) : MM l yX2_loadsOf cX2_loadsOf 2 (some .int) 0 0 0 D cy [.ref a, .int v] (PT D cy base τ G) (PuI (fun r => True)) noF := by
  refine MM.of (by decide) (Nat.le_of_ble_eq_true rfl) ?_
  intro p e s m below meth c C hPT ls hl
  obtain ⟨hx, hb, hr, hml, hown, hts, hlocks, hK, hnm⟩ := C
  obtain ⟨hZ, hT⟩ := hPT
  have hS : va_S (RA base) s.heap s.heap [] := va_S.rf
  have hl : lv_has ls 2 [(0, .ref a), (1, .int v)] := hl
  refine lv_aload_n hx hb dX2_loadsOf_0 rfl (lv_at hl 0 rfl) ?_
  refine t_geti cf_7 hx hb hts hown hK hT h_a (k := 9) rfl fl_X2_15 (fun _ h9 => h9) dX2_loadsOf_1 (fun z_1 ez_1 rz_1 => ?_)
  have ez_1 : z_1 = G.1 a 9 := ez_1
  have rz_1 : 1 ≤ z_1.toInt ∧ z_1.toInt ≤ 50 := rz_1
  refine lv_iconst (v := 1) hx hb dX2_loadsOf_4 (by decide) ?_
  refine lv_icmp_ge (tgt := 12) hx hb dX2_loadsOf_5 (by decide) (fun c_2 => ?_) (fun c_2 => ?_)
  · skip
    have tc_2 : 1 ≤ z_1.toInt := (fa_le _ _).mp c_2
    refine lv_iload_n hx hb dX2_loadsOf_12 rfl (lv_at hl 1 rfl) ?_
    refine lv_aload_n hx hb dX2_loadsOf_13 rfl (lv_at hl 0 rfl) ?_
    refine t_geti cf_7 hx hb hts hown hK hT h_a (k := 9) rfl fl_X2_15 (fun _ h9 => h9) dX2_loadsOf_14 (fun z_3 ez_3 rz_3 => ?_)
    have w_4 : z_1 = z_3 := ez_1.trans ez_3.symm
    subst w_4
    refine lv_iadd hx hb dX2_loadsOf_17 ?_
    refine lv_topi (fun z_5 ez_5 => ?_)
    refine lv_iconst (v := 1) hx hb dX2_loadsOf_18 (by decide) ?_
    refine lv_isub hx hb dX2_loadsOf_19 ?_
    refine lv_topi (fun z_6 ez_6 => ?_)
    refine lv_aload_n hx hb dX2_loadsOf_20 rfl (lv_at hl 0 rfl) ?_
    refine t_geti cf_7 hx hb hts hown hK hT h_a (k := 9) rfl fl_X2_15 (fun _ h9 => h9) dX2_loadsOf_21 (fun z_7 ez_7 rz_7 => ?_)
    have w_8 : z_1 = z_7 := ez_1.trans ez_7.symm
    subst w_8
    refine lv_idiv hx hb dX2_loadsOf_24 (ne0_i (by omega)) ?_
    refine lv_topi (fun z_9 ez_9 => ?_)
    exact ret_i hx hb hr hlocks ⟨rfl, _, rfl, trivial⟩ (fun _ h => absurd h List.not_mem_nil) (Nat.le_refl _) (Nat.le_refl _) dX2_loadsOf_25
  · skip
    have tc_2 : ¬ 1 ≤ z_1.toInt := fun h => c_2 ((fa_le _ _).mpr h)
    exfalso; omega
set_option maxHeartbeats 4000000 in
set_option maxRecDepth 100000 in
theorem t_X2_roadsShut (l : Launch) (D : va_G) (cy : Nat → ClassId) (base : Nat) (τ : Nat → Nat) (G : Gh) (a : Nat) (h_a : τ a = 7) (b : Nat) (h_b : τ b = 25) : MM l yX2_roadsShut cX2_roadsShut 4 (some .int) 0 0 0 D cy [.ref a, .ref b] (PT D cy base τ G) (PuI (fun r => True)) noF := by
  refine MM.of (by decide) (Nat.le_of_ble_eq_true rfl) ?_
  intro p e s m below meth c C hPT ls hl
  obtain ⟨hx, hb, hr, hml, hown, hts, hlocks, hK, hnm⟩ := C
  obtain ⟨hZ, hT⟩ := hPT
  have hS : va_S (RA base) s.heap s.heap [] := va_S.rf
  have hl : lv_has ls 4 [(0, .ref a), (1, .ref b)] := hl
  refine lv_iconst (v := 0) hx hb dX2_roadsShut_0 (by decide) ?_
  refine lv_istore_n (lv' := [(2, .int 0), (0, .ref a), (1, .ref b)]) hx hb dX2_roadsShut_1 rfl hl (by decide) rfl (fun ls hl => ?_)
  refine lv_iconst (v := 0) hx hb dX2_roadsShut_2 (by decide) ?_
  refine lv_istore_n (lv' := [(3, .int 0), (2, .int 0), (0, .ref a), (1, .ref b)]) hx hb dX2_roadsShut_3 rfl hl (by decide) rfl (fun ls hl => ?_)
  refine W.loop (σ := Int32 × Int32) (fun w1 H locs ls => 0 ≤ w1.2.toInt ∧ w1.2.toInt ≤ 6 ∧ H = s.heap ∧ locs = [] ∧ lv_has ls 4 [(2, .int w1.1), (3, .int w1.2), (0, .ref a), (1, .ref b)]) (fun w1 => (6 - w1.2.toInt).toNat) ?_ ((0 : Int32), (0 : Int32)) _ _ _ ⟨(by show 0 ≤ (0 : Int32).toInt; decide), (by show (0 : Int32).toInt ≤ 6; decide), rfl, rfl, lv_sub hl [1, 0, 2, 3] rfl⟩
  intro w1 H locs ls hI ih1
  obtain ⟨x1_2, x1_3⟩ := w1
  obtain ⟨i1_0, i1_1, rfl, rfl, hl⟩ := hI
  have i1_0 : 0 ≤ x1_3.toInt := i1_0
  have i1_1 : x1_3.toInt ≤ 6 := i1_1
  have hl : lv_has ls 4 [(2, .int x1_2), (3, .int x1_3), (0, .ref a), (1, .ref b)] := hl
  refine lv_iload_n hx hb dX2_roadsShut_4 rfl (lv_at hl 1 rfl) ?_
  refine lv_aload_n hx hb dX2_roadsShut_5 rfl (lv_at hl 2 rfl) ?_
  refine t_geti cf_7 hx hb hts hown hK hT h_a (k := 6) rfl fl_X2_40 (fun _ h9 => h9) dX2_roadsShut_6 (fun z_2 ez_2 rz_2 => ?_)
  have ez_2 : z_2 = G.1 a 6 := ez_2
  have rz_2 : 0 ≤ z_2.toInt ∧ z_2.toInt ≤ 6 := rz_2
  refine lv_icmp_ge (tgt := 38) hx hb dX2_roadsShut_9 (by decide) (fun c_3 => ?_) (fun c_3 => ?_)
  · skip
    have tc_3 : z_2.toInt ≤ x1_3.toInt := (fa_le _ _).mp c_3
    refine lv_iload_n hx hb dX2_roadsShut_38 rfl (lv_at hl 0 rfl) ?_
    exact ret_i hx hb hr hlocks ⟨rfl, _, rfl, trivial⟩ (fun _ h => absurd h List.not_mem_nil) (Nat.le_refl _) (Nat.le_refl _) dX2_roadsShut_39
  · skip
    have tc_3 : ¬ z_2.toInt ≤ x1_3.toInt := fun h => c_3 ((fa_le _ _).mpr h)
    refine lv_iload_n hx hb dX2_roadsShut_12 rfl (lv_at hl 1 rfl) ?_
    refine lv_aload_n hx hb dX2_roadsShut_13 rfl (lv_at hl 3 rfl) ?_
    refine t_alen (v := 6) rfl (by decide) hx hb hK hT h_b rfl (by rw [show _ = 6 from (hT.len h_b (by decide))]; rfl) dX2_roadsShut_14 ?_
    refine lv_icmp_ge (tgt := 38) hx hb dX2_roadsShut_15 (by decide) (fun c_4 => ?_) (fun c_4 => ?_)
    · skip
      have tc_4 : 6 ≤ x1_3.toInt := (fa_le _ _).mp c_4
      exfalso; omega
    · skip
      have tc_4 : ¬ 6 ≤ x1_3.toInt := fun h => c_4 ((fa_le _ _).mpr h)
      refine lv_iload_n hx hb dX2_roadsShut_18 rfl (lv_at hl 0 rfl) ?_
      refine lv_aload_n hx hb dX2_roadsShut_19 rfl (lv_at hl 3 rfl) ?_
      refine lv_iload_n hx hb dX2_roadsShut_20 rfl (lv_at hl 1 rfl) ?_
      refine t_iald (n := 6) (i := x1_3) rfl (by decide) hx hb hK hT h_b (hT.len h_b (by decide)) ⟨by omega, by omega⟩ dX2_roadsShut_21 (fun z_5 ez_5 rz_5 => ?_)
      refine lv_if_ne (tgt := 29) hx hb dX2_roadsShut_22 (by decide) (fun c_6 => ?_) (fun c_6 => ?_)
      · skip
        have tc_6 : ¬ z_5.toInt = 0 := fun h => c_6 ((fa_eq _ _).mpr h)
        refine lv_iconst (v := 1) hx hb dX2_roadsShut_29 (by decide) ?_
        refine lv_iadd hx hb dX2_roadsShut_30 ?_
        refine lv_topi (fun z_7 ez_7 => ?_)
        refine lv_istore_n (lv' := [(2, .int z_7), (3, .int x1_3), (0, .ref a), (1, .ref b)]) hx hb dX2_roadsShut_31 rfl hl (by decide) rfl (fun ls hl => ?_)
        obtain ⟨z_8, ez_8⟩ : ∃ y : Int32, y = x1_3 + 1 := ⟨_, rfl⟩
        have tz_8 : z_8.toInt = x1_3.toInt + 1 := add_t ez_8 (show -2147483648 ≤ x1_3.toInt + 1 by omega) (show x1_3.toInt + 1 < 2147483648 by omega)
        refine lv_iinc (v := z_8) (lv' := [(3, .int z_8), (2, .int z_7), (0, .ref a), (1, .ref b)]) hx hb dX2_roadsShut_32 hl (k := 1) rfl (by rw [ez_8]; rfl) (by decide) rfl (fun ls hl => ?_)
        refine lv_goto (tgt := 4) hx hb dX2_roadsShut_35 (by decide) ?_
        exact ih1 (z_7, z_8) _ _ _ (by show (6 - z_8.toInt).toNat < (6 - x1_3.toInt).toNat; omega) ⟨(by show 0 ≤ z_8.toInt; omega), (by show z_8.toInt ≤ 6; omega), rfl, rfl, lv_sub hl [1, 0, 2, 3] rfl⟩
      · skip
        have tc_6 : z_5.toInt = 0 := (fa_eq _ _).mp c_6
        refine lv_iconst (v := 0) hx hb dX2_roadsShut_25 (by decide) ?_
        refine lv_goto (tgt := 30) hx hb dX2_roadsShut_26 (by decide) ?_
        refine lv_iadd hx hb dX2_roadsShut_30 ?_
        refine lv_topi (fun z_9 ez_9 => ?_)
        refine lv_istore_n (lv' := [(2, .int z_9), (3, .int x1_3), (0, .ref a), (1, .ref b)]) hx hb dX2_roadsShut_31 rfl hl (by decide) rfl (fun ls hl => ?_)
        obtain ⟨z_10, ez_10⟩ : ∃ y : Int32, y = x1_3 + 1 := ⟨_, rfl⟩
        have tz_10 : z_10.toInt = x1_3.toInt + 1 := add_t ez_10 (show -2147483648 ≤ x1_3.toInt + 1 by omega) (show x1_3.toInt + 1 < 2147483648 by omega)
        refine lv_iinc (v := z_10) (lv' := [(3, .int z_10), (2, .int z_9), (0, .ref a), (1, .ref b)]) hx hb dX2_roadsShut_32 hl (k := 1) rfl (by rw [ez_10]; rfl) (by decide) rfl (fun ls hl => ?_)
        refine lv_goto (tgt := 4) hx hb dX2_roadsShut_35 (by decide) ?_
        exact ih1 (z_9, z_10) _ _ _ (by show (6 - z_10.toInt).toNat < (6 - x1_3.toInt).toNat; omega) ⟨(by show 0 ≤ z_10.toInt; omega), (by show z_10.toInt ≤ 6; omega), rfl, rfl, lv_sub hl [1, 0, 2, 3] rfl⟩
set_option maxHeartbeats 4000000 in
set_option maxRecDepth 100000 in
theorem t_X2_firstLacking (l : Launch) (D : va_G) (cy : Nat → ClassId) (base : Nat) (τ : Nat → Nat) (G : Gh) (a : Nat) (h_a : τ a = 7) (v : Int32) (w : Int32) (y : Int32) (z : Int32) (r_z : 0 ≤ z.toInt ∧ z.toInt ≤ 999) : MM l yX2_firstLacking cX2_firstLacking 6 (some .int) 2 0 0 D cy [.ref a, .int v, .int w, .int y, .int z] (PT D cy base τ G) (PuI (fun r => True)) noF := by
  refine MM.of (by decide) (Nat.le_of_ble_eq_true rfl) ?_
  intro p e s m below meth c C hPT ls hl
  obtain ⟨hx, hb, hr, hml, hown, hts, hlocks, hK, hnm⟩ := C
  obtain ⟨hZ, hT⟩ := hPT
  have hS : va_S (RA base) s.heap s.heap [] := va_S.rf
  have hl : lv_has ls 6 [(0, .ref a), (1, .int v), (2, .int w), (3, .int y), (4, .int z)] := hl
  refine lv_aload_n hx hb dX2_firstLacking_0 rfl (lv_at hl 0 rfl) ?_
  refine lv_iload_n hx hb dX2_firstLacking_1 rfl (lv_at hl 1 rfl) ?_
  refine lv_iload_n hx hb dX2_firstLacking_2 rfl (lv_at hl 2 rfl) ?_
  refine pu_calli (runV (As := [.int v, .int w]) (rest := []) ⟨hx, hb, hml, hown, hts⟩ (t_X2_eaten l D cy base τ G a h_a v w) sV_X2_65 hK (t_recv cf_7 hK hT h_a) ⟨Nat.le_trans hZ hS.1, hT⟩ ⟨Nat.le_of_ble_eq_true rfl, Nat.le_of_ble_eq_true rfl⟩ rfl hl.1 rfl (Nat.le_of_ble_eq_true rfl) dX2_firstLacking_3 ⟨Nat.le_of_ble_eq_true rfl, Nat.le_of_ble_eq_true rfl⟩) (fun r_1 hr_1 => ?_)
  refine lv_istore (lv' := [(5, .int r_1), (0, .ref a), (1, .int v), (2, .int w), (3, .int y), (4, .int z)]) hx hb dX2_firstLacking_6 hl (by decide) rfl (fun ls hl => ?_)
  refine lv_iload hx hb dX2_firstLacking_8 (lv_at hl 0 rfl) ?_
  refine lv_if_eq (tgt := 25) hx hb dX2_firstLacking_10 (by decide) (fun c_2 => ?_) (fun c_2 => ?_)
  · skip
    have tc_2 : r_1.toInt = 0 := (fa_eq _ _).mp c_2
    refine lv_iconst (v := 0) hx hb dX2_firstLacking_25 (by decide) ?_
    exact ret_i hx hb hr hlocks ⟨rfl, _, rfl, trivial⟩ (fun _ h => absurd h List.not_mem_nil) (Nat.le_refl _) (Nat.le_refl _) dX2_firstLacking_26
  · skip
    have tc_2 : ¬ r_1.toInt = 0 := fun h => c_2 ((fa_eq _ _).mpr h)
    refine lv_aload_n hx hb dX2_firstLacking_13 rfl (lv_at hl 1 rfl) ?_
    refine lv_iload_n hx hb dX2_firstLacking_14 rfl (lv_at hl 2 rfl) ?_
    refine lv_iload_n hx hb dX2_firstLacking_15 rfl (lv_at hl 3 rfl) ?_
    refine lv_iload_n hx hb dX2_firstLacking_16 rfl (lv_at hl 4 rfl) ?_
    refine pu_calli (runV (As := [.int v, .int w, .int y]) (rest := []) ⟨hx, hb, hml, hown, hts⟩ (t_X2_wanted l D cy base τ G a h_a v w y) sV_X2_81 hK (t_recv cf_7 hK hT h_a) ⟨Nat.le_trans hZ hS.1, hT⟩ ⟨Nat.le_of_ble_eq_true rfl, Nat.le_of_ble_eq_true rfl⟩ rfl hl.1 rfl (Nat.le_of_ble_eq_true rfl) dX2_firstLacking_17 ⟨Nat.le_of_ble_eq_true rfl, Nat.le_of_ble_eq_true rfl⟩) (fun r_3 hr_3 => ?_)
    refine lv_iload hx hb dX2_firstLacking_20 (lv_at hl 5 rfl) ?_
    refine lv_icmp_gt (tgt := 27) hx hb dX2_firstLacking_22 (by decide) (fun c_4 => ?_) (fun c_4 => ?_)
    · skip
      have tc_4 : z.toInt < r_3.toInt := (fa_lt _ _).mp c_4
      have mc_4 : r_3.toInt ≤ 2147483647 := max_t r_3
      refine lv_iload_n hx hb dX2_firstLacking_27 rfl (lv_at hl 4 rfl) ?_
      refine lv_iload hx hb dX2_firstLacking_28 (lv_at hl 5 rfl) ?_
      refine lv_iload hx hb dX2_firstLacking_30 (lv_at hl 0 rfl) ?_
      refine lv_idiv hx hb dX2_firstLacking_32 (ne0_i (by omega)) ?_
      refine lv_topi (fun z_5 ez_5 => ?_)
      refine lv_iadd hx hb dX2_firstLacking_33 ?_
      refine lv_topi (fun z_6 ez_6 => ?_)
      refine lv_iconst (v := 1) hx hb dX2_firstLacking_34 (by decide) ?_
      refine lv_iadd hx hb dX2_firstLacking_35 ?_
      refine lv_topi (fun z_7 ez_7 => ?_)
      exact ret_i hx hb hr hlocks ⟨rfl, _, rfl, trivial⟩ (fun _ h => absurd h List.not_mem_nil) (Nat.le_refl _) (Nat.le_refl _) dX2_firstLacking_36
    · skip
      have tc_4 : ¬ z.toInt < r_3.toInt := fun h => c_4 ((fa_lt _ _).mpr h)
      refine lv_iconst (v := 0) hx hb dX2_firstLacking_25 (by decide) ?_
      exact ret_i hx hb hr hlocks ⟨rfl, _, rfl, trivial⟩ (fun _ h => absurd h List.not_mem_nil) (Nat.le_refl _) (Nat.le_refl _) dX2_firstLacking_26
set_option maxHeartbeats 4000000 in
set_option maxRecDepth 100000 in
theorem t_X2_firstWrong (l : Launch) (D : va_G) (cy : Nat → ClassId) (base : Nat) (τ : Nat → Nat) (G : Gh) (a : Nat) (h_a : τ a = 7) (b : Nat) (h_b : τ b = 40) (v : Int32) : MM l yX2_firstWrong cX2_firstWrong 5 (some .int) 0 0 0 D cy [.ref a, .ref b, .int v] (PT D cy base τ G) (PuI (fun r => True)) noF := by
  refine MM.of (by decide) (Nat.le_of_ble_eq_true rfl) ?_
  intro p e s m below meth c C hPT ls hl
  obtain ⟨hx, hb, hr, hml, hown, hts, hlocks, hK, hnm⟩ := C
  obtain ⟨hZ, hT⟩ := hPT
  have hS : va_S (RA base) s.heap s.heap [] := va_S.rf
  have hl : lv_has ls 5 [(0, .ref a), (1, .ref b), (2, .int v)] := hl
  refine lv_iconst (v := 0) hx hb dX2_firstWrong_0 (by decide) ?_
  refine lv_istore_n (lv' := [(3, .int 0), (0, .ref a), (1, .ref b), (2, .int v)]) hx hb dX2_firstWrong_1 rfl hl (by decide) rfl (fun ls hl => ?_)
  refine W.loop (σ := Int32) (fun w1 H locs ls => 0 ≤ w1.toInt ∧ w1.toInt ≤ 60 ∧ H = s.heap ∧ locs = [] ∧ lv_has ls 5 [(3, .int w1), (0, .ref a), (1, .ref b), (2, .int v)]) (fun w1 => (60 - w1.toInt).toNat) ?_ ((0 : Int32)) _ _ _ ⟨(by show 0 ≤ (0 : Int32).toInt; decide), (by show (0 : Int32).toInt ≤ 60; decide), rfl, rfl, lv_sub hl [0, 1, 2, 3] rfl⟩
  intro w1 H locs ls hI ih1
  obtain ⟨x1_3, e9⟩ : ∃ y, y = w1 := ⟨_, rfl⟩
  subst e9
  obtain ⟨i1_0, i1_1, rfl, rfl, hl⟩ := hI
  have i1_0 : 0 ≤ x1_3.toInt := i1_0
  have i1_1 : x1_3.toInt ≤ 60 := i1_1
  have hl : lv_has ls 5 [(3, .int x1_3), (0, .ref a), (1, .ref b), (2, .int v)] := hl
  refine lv_iload_n hx hb dX2_firstWrong_2 rfl (lv_at hl 0 rfl) ?_
  refine lv_aload_n hx hb dX2_firstWrong_3 rfl (lv_at hl 2 rfl) ?_
  obtain ⟨n_2, en_2⟩ : ∃ y : Nat, y = G.2.2.2 b := ⟨_, rfl⟩
  have rn_2 : n_2 ≤ 60 := by rw [en_2]; exact hT.len h_b (by decide)
  refine t_alen (v := Int32.ofNat n_2) rfl (by decide) hx hb hK hT h_b rfl (by rw [show _ = n_2 from (en_2.symm)]) dX2_firstWrong_4 ?_
  refine lv_topi (fun z_3 ez_3 => ?_)
  have tz_3 : z_3.toInt = n_2 := len_t ez_3 (by omega)
  refine lv_icmp_ge (tgt := 69) hx hb dX2_firstWrong_5 (by decide) (fun c_4 => ?_) (fun c_4 => ?_)
  · skip
    have tc_4 : z_3.toInt ≤ x1_3.toInt := (fa_le _ _).mp c_4
    refine lv_iconst (v := 0) hx hb dX2_firstWrong_69 (by decide) ?_
    exact ret_i hx hb hr hlocks ⟨rfl, _, rfl, trivial⟩ (fun _ h => absurd h List.not_mem_nil) (Nat.le_refl _) (Nat.le_refl _) dX2_firstWrong_70
  · skip
    have tc_4 : ¬ z_3.toInt ≤ x1_3.toInt := fun h => c_4 ((fa_le _ _).mpr h)
    refine lv_iload_n hx hb dX2_firstWrong_8 rfl (lv_at hl 3 rfl) ?_
    refine lv_if_eq (tgt := 23) hx hb dX2_firstWrong_9 (by decide) (fun c_5 => ?_) (fun c_5 => ?_)
    · skip
      have tc_5 : v.toInt = 0 := (fa_eq _ _).mp c_5
      refine lv_iconst (v := 0) hx hb dX2_firstWrong_23 (by decide) ?_
      refine lv_istore (lv' := [(4, .int 0), (3, .int x1_3), (0, .ref a), (1, .ref b), (2, .int v)]) hx hb dX2_firstWrong_24 hl (by decide) rfl (fun ls hl => ?_)
      refine lv_aload_n hx hb dX2_firstWrong_26 rfl (lv_at hl 3 rfl) ?_
      refine lv_iload_n hx hb dX2_firstWrong_27 rfl (lv_at hl 1 rfl) ?_
      refine t_lald (n := n_2) (i := x1_3) rfl (by decide) hx hb hK hT h_b (en_2.symm) ⟨by omega, by omega⟩ dX2_firstWrong_28 (fun z_6 ez_6 => ?_)
      refine lv_lconst (v := 0) hx hb dX2_firstWrong_29 (by decide) ?_
      refine W.lcmp hx hb dX2_firstWrong_30 ?_
      refine lv_topi (fun z_7 ez_7 => ?_)
      have tz_7 : (z_7.toInt < 0 ↔ z_6.toInt < 0) ∧ (0 < z_7.toInt ↔ 0 < z_6.toInt) ∧ -1 ≤ z_7.toInt ∧ z_7.toInt ≤ 1 := cmp_t ez_7
      refine lv_if_eq (tgt := 63) hx hb dX2_firstWrong_31 (by decide) (fun c_8 => ?_) (fun c_8 => ?_)
      · skip
        have tc_8 : z_7.toInt = 0 := (fa_eq _ _).mp c_8
        obtain ⟨z_9, ez_9⟩ : ∃ y : Int32, y = x1_3 + 1 := ⟨_, rfl⟩
        have tz_9 : z_9.toInt = x1_3.toInt + 1 := add_t ez_9 (show -2147483648 ≤ x1_3.toInt + 1 by omega) (show x1_3.toInt + 1 < 2147483648 by omega)
        refine lv_iinc (v := z_9) (lv' := [(3, .int z_9), (4, .int 0), (0, .ref a), (1, .ref b), (2, .int v)]) hx hb dX2_firstWrong_63 hl (k := 1) rfl (by rw [ez_9]; rfl) (by decide) rfl (fun ls hl => ?_)
        refine lv_goto (tgt := 2) hx hb dX2_firstWrong_66 (by decide) ?_
        exact ih1 (z_9) _ _ _ (by show (60 - z_9.toInt).toNat < (60 - x1_3.toInt).toNat; omega) ⟨(by show 0 ≤ z_9.toInt; omega), (by show z_9.toInt ≤ 60; omega), rfl, rfl, lv_sub hl [0, 2, 3, 4] rfl⟩
      · skip
        have tc_8 : ¬ z_7.toInt = 0 := fun h => c_8 ((fa_eq _ _).mpr h)
        refine lv_iload hx hb dX2_firstWrong_34 (lv_at hl 0 rfl) ?_
        refine lv_if_ne (tgt := 59) hx hb dX2_firstWrong_36 (by decide) (fun c_10 => absurd rfl c_10) (fun _ => ?_)
        refine lv_aload_n hx hb dX2_firstWrong_39 rfl (lv_at hl 3 rfl) ?_
        refine lv_iload_n hx hb dX2_firstWrong_40 rfl (lv_at hl 1 rfl) ?_
        refine t_lald (n := n_2) (i := x1_3) rfl (by decide) hx hb hK hT h_b (en_2.symm) ⟨by omega, by omega⟩ dX2_firstWrong_41 (fun z_11 ez_11 => ?_)
        have w_12 : z_6 = z_11 := ez_6.trans ez_11.symm
        subst w_12
        refine lv_lconst (v := 0) hx hb dX2_firstWrong_42 (by decide) ?_
        refine W.lcmp hx hb dX2_firstWrong_43 ?_
        refine lv_topi (fun z_13 ez_13 => ?_)
        have tz_13 : (z_13.toInt < 0 ↔ z_6.toInt < 0) ∧ (0 < z_13.toInt ↔ 0 < z_6.toInt) ∧ -1 ≤ z_13.toInt ∧ z_13.toInt ≤ 1 := cmp_t ez_13
        refine lv_if_lt (tgt := 59) hx hb dX2_firstWrong_44 (by decide) (fun c_14 => ?_) (fun c_14 => ?_)
        · skip
          have tc_14 : z_13.toInt < 0 := (fa_lt _ _).mp c_14
          refine lv_iload_n hx hb dX2_firstWrong_59 rfl (lv_at hl 1 rfl) ?_
          refine lv_iconst (v := 1) hx hb dX2_firstWrong_60 (by decide) ?_
          refine lv_iadd hx hb dX2_firstWrong_61 ?_
          refine lv_topi (fun z_15 ez_15 => ?_)
          have tz_15 : z_15.toInt = x1_3.toInt + 1 := add_t ez_15 (show -2147483648 ≤ x1_3.toInt + 1 by omega) (show x1_3.toInt + 1 < 2147483648 by omega)
          exact ret_i hx hb hr hlocks ⟨rfl, _, rfl, trivial⟩ (fun _ h => absurd h List.not_mem_nil) (Nat.le_refl _) (Nat.le_refl _) dX2_firstWrong_62
        · skip
          have tc_14 : ¬ z_13.toInt < 0 := fun h => c_14 ((fa_lt _ _).mpr h)
          refine lv_aload_n hx hb dX2_firstWrong_47 rfl (lv_at hl 3 rfl) ?_
          refine lv_iload_n hx hb dX2_firstWrong_48 rfl (lv_at hl 1 rfl) ?_
          refine t_lald (n := n_2) (i := x1_3) rfl (by decide) hx hb hK hT h_b (en_2.symm) ⟨by omega, by omega⟩ dX2_firstWrong_49 (fun z_16 ez_16 => ?_)
          have w_17 : z_6 = z_16 := ez_6.trans ez_16.symm
          subst w_17
          refine lv_aload_n hx hb dX2_firstWrong_50 rfl (lv_at hl 2 rfl) ?_
          refine t_geti cf_7 hx hb hts hown hK hT h_a (k := 8) rfl fl_X2_9 (fun _ h9 => h9) dX2_firstWrong_51 (fun z_18 ez_18 rz_18 => ?_)
          have ez_18 : z_18 = G.1 a 8 := ez_18
          have rz_18 : 1 ≤ z_18.toInt ∧ z_18.toInt ≤ 9 := rz_18
          refine lv_i2l hx hb dX2_firstWrong_54 rfl ?_
          refine lv_topl (fun z_19 ez_19 => ?_)
          have tz_19 : z_19.toInt = z_18.toInt := by rw [ez_19]; exact wide_t z_18
          refine W.lcmp hx hb dX2_firstWrong_55 ?_
          refine lv_topi (fun z_20 ez_20 => ?_)
          have tz_20 : (z_20.toInt < 0 ↔ z_6.toInt < z_19.toInt) ∧ (0 < z_20.toInt ↔ z_19.toInt < z_6.toInt) ∧ -1 ≤ z_20.toInt ∧ z_20.toInt ≤ 1 := cmp_t ez_20
          refine lv_if_le (tgt := 63) hx hb dX2_firstWrong_56 (by decide) (fun c_21 => ?_) (fun c_21 => ?_)
          · skip
            have tc_21 : z_20.toInt ≤ 0 := (fa_le _ _).mp c_21
            obtain ⟨z_22, ez_22⟩ : ∃ y : Int32, y = x1_3 + 1 := ⟨_, rfl⟩
            have tz_22 : z_22.toInt = x1_3.toInt + 1 := add_t ez_22 (show -2147483648 ≤ x1_3.toInt + 1 by omega) (show x1_3.toInt + 1 < 2147483648 by omega)
            refine lv_iinc (v := z_22) (lv' := [(3, .int z_22), (4, .int 0), (0, .ref a), (1, .ref b), (2, .int v)]) hx hb dX2_firstWrong_63 hl (k := 1) rfl (by rw [ez_22]; rfl) (by decide) rfl (fun ls hl => ?_)
            refine lv_goto (tgt := 2) hx hb dX2_firstWrong_66 (by decide) ?_
            exact ih1 (z_22) _ _ _ (by show (60 - z_22.toInt).toNat < (60 - x1_3.toInt).toNat; omega) ⟨(by show 0 ≤ z_22.toInt; omega), (by show z_22.toInt ≤ 60; omega), rfl, rfl, lv_sub hl [0, 2, 3, 4] rfl⟩
          · skip
            have tc_21 : ¬ z_20.toInt ≤ 0 := fun h => c_21 ((fa_le _ _).mpr h)
            refine lv_iload_n hx hb dX2_firstWrong_59 rfl (lv_at hl 1 rfl) ?_
            refine lv_iconst (v := 1) hx hb dX2_firstWrong_60 (by decide) ?_
            refine lv_iadd hx hb dX2_firstWrong_61 ?_
            refine lv_topi (fun z_23 ez_23 => ?_)
            have tz_23 : z_23.toInt = x1_3.toInt + 1 := add_t ez_23 (show -2147483648 ≤ x1_3.toInt + 1 by omega) (show x1_3.toInt + 1 < 2147483648 by omega)
            exact ret_i hx hb hr hlocks ⟨rfl, _, rfl, trivial⟩ (fun _ h => absurd h List.not_mem_nil) (Nat.le_refl _) (Nat.le_refl _) dX2_firstWrong_62
    · skip
      have tc_5 : ¬ v.toInt = 0 := fun h => c_5 ((fa_eq _ _).mpr h)
      refine lv_iload_n hx hb dX2_firstWrong_12 rfl (lv_at hl 3 rfl) ?_
      refine lv_iload_n hx hb dX2_firstWrong_13 rfl (lv_at hl 0 rfl) ?_
      refine lv_iconst (v := 1) hx hb dX2_firstWrong_14 (by decide) ?_
      refine lv_iadd hx hb dX2_firstWrong_15 ?_
      refine lv_topi (fun z_24 ez_24 => ?_)
      have tz_24 : z_24.toInt = x1_3.toInt + 1 := add_t ez_24 (show -2147483648 ≤ x1_3.toInt + 1 by omega) (show x1_3.toInt + 1 < 2147483648 by omega)
      refine lv_icmp_ge (tgt := 23) hx hb dX2_firstWrong_16 (by decide) (fun c_25 => ?_) (fun c_25 => ?_)
      · skip
        have tc_25 : z_24.toInt ≤ v.toInt := (fa_le _ _).mp c_25
        refine lv_iconst (v := 0) hx hb dX2_firstWrong_23 (by decide) ?_
        refine lv_istore (lv' := [(4, .int 0), (3, .int x1_3), (0, .ref a), (1, .ref b), (2, .int v)]) hx hb dX2_firstWrong_24 hl (by decide) rfl (fun ls hl => ?_)
        refine lv_aload_n hx hb dX2_firstWrong_26 rfl (lv_at hl 3 rfl) ?_
        refine lv_iload_n hx hb dX2_firstWrong_27 rfl (lv_at hl 1 rfl) ?_
        refine t_lald (n := n_2) (i := x1_3) rfl (by decide) hx hb hK hT h_b (en_2.symm) ⟨by omega, by omega⟩ dX2_firstWrong_28 (fun z_26 ez_26 => ?_)
        refine lv_lconst (v := 0) hx hb dX2_firstWrong_29 (by decide) ?_
        refine W.lcmp hx hb dX2_firstWrong_30 ?_
        refine lv_topi (fun z_27 ez_27 => ?_)
        have tz_27 : (z_27.toInt < 0 ↔ z_26.toInt < 0) ∧ (0 < z_27.toInt ↔ 0 < z_26.toInt) ∧ -1 ≤ z_27.toInt ∧ z_27.toInt ≤ 1 := cmp_t ez_27
        refine lv_if_eq (tgt := 63) hx hb dX2_firstWrong_31 (by decide) (fun c_28 => ?_) (fun c_28 => ?_)
        · skip
          have tc_28 : z_27.toInt = 0 := (fa_eq _ _).mp c_28
          obtain ⟨z_29, ez_29⟩ : ∃ y : Int32, y = x1_3 + 1 := ⟨_, rfl⟩
          have tz_29 : z_29.toInt = x1_3.toInt + 1 := add_t ez_29 (show -2147483648 ≤ x1_3.toInt + 1 by omega) (show x1_3.toInt + 1 < 2147483648 by omega)
          refine lv_iinc (v := z_29) (lv' := [(3, .int z_29), (4, .int 0), (0, .ref a), (1, .ref b), (2, .int v)]) hx hb dX2_firstWrong_63 hl (k := 1) rfl (by rw [ez_29]; rfl) (by decide) rfl (fun ls hl => ?_)
          refine lv_goto (tgt := 2) hx hb dX2_firstWrong_66 (by decide) ?_
          exact ih1 (z_29) _ _ _ (by show (60 - z_29.toInt).toNat < (60 - x1_3.toInt).toNat; omega) ⟨(by show 0 ≤ z_29.toInt; omega), (by show z_29.toInt ≤ 60; omega), rfl, rfl, lv_sub hl [0, 2, 3, 4] rfl⟩
        · skip
          have tc_28 : ¬ z_27.toInt = 0 := fun h => c_28 ((fa_eq _ _).mpr h)
          refine lv_iload hx hb dX2_firstWrong_34 (lv_at hl 0 rfl) ?_
          refine lv_if_ne (tgt := 59) hx hb dX2_firstWrong_36 (by decide) (fun c_30 => absurd rfl c_30) (fun _ => ?_)
          refine lv_aload_n hx hb dX2_firstWrong_39 rfl (lv_at hl 3 rfl) ?_
          refine lv_iload_n hx hb dX2_firstWrong_40 rfl (lv_at hl 1 rfl) ?_
          refine t_lald (n := n_2) (i := x1_3) rfl (by decide) hx hb hK hT h_b (en_2.symm) ⟨by omega, by omega⟩ dX2_firstWrong_41 (fun z_31 ez_31 => ?_)
          have w_32 : z_26 = z_31 := ez_26.trans ez_31.symm
          subst w_32
          refine lv_lconst (v := 0) hx hb dX2_firstWrong_42 (by decide) ?_
          refine W.lcmp hx hb dX2_firstWrong_43 ?_
          refine lv_topi (fun z_33 ez_33 => ?_)
          have tz_33 : (z_33.toInt < 0 ↔ z_26.toInt < 0) ∧ (0 < z_33.toInt ↔ 0 < z_26.toInt) ∧ -1 ≤ z_33.toInt ∧ z_33.toInt ≤ 1 := cmp_t ez_33
          refine lv_if_lt (tgt := 59) hx hb dX2_firstWrong_44 (by decide) (fun c_34 => ?_) (fun c_34 => ?_)
          · skip
            have tc_34 : z_33.toInt < 0 := (fa_lt _ _).mp c_34
            refine lv_iload_n hx hb dX2_firstWrong_59 rfl (lv_at hl 1 rfl) ?_
            refine lv_iconst (v := 1) hx hb dX2_firstWrong_60 (by decide) ?_
            refine lv_iadd hx hb dX2_firstWrong_61 ?_
            refine lv_topi (fun z_35 ez_35 => ?_)
            have w_36 : z_24 = z_35 := ez_24.trans ez_35.symm
            subst w_36
            exact ret_i hx hb hr hlocks ⟨rfl, _, rfl, trivial⟩ (fun _ h => absurd h List.not_mem_nil) (Nat.le_refl _) (Nat.le_refl _) dX2_firstWrong_62
          · skip
            have tc_34 : ¬ z_33.toInt < 0 := fun h => c_34 ((fa_lt _ _).mpr h)
            refine lv_aload_n hx hb dX2_firstWrong_47 rfl (lv_at hl 3 rfl) ?_
            refine lv_iload_n hx hb dX2_firstWrong_48 rfl (lv_at hl 1 rfl) ?_
            refine t_lald (n := n_2) (i := x1_3) rfl (by decide) hx hb hK hT h_b (en_2.symm) ⟨by omega, by omega⟩ dX2_firstWrong_49 (fun z_37 ez_37 => ?_)
            have w_38 : z_26 = z_37 := ez_26.trans ez_37.symm
            subst w_38
            refine lv_aload_n hx hb dX2_firstWrong_50 rfl (lv_at hl 2 rfl) ?_
            refine t_geti cf_7 hx hb hts hown hK hT h_a (k := 8) rfl fl_X2_9 (fun _ h9 => h9) dX2_firstWrong_51 (fun z_39 ez_39 rz_39 => ?_)
            have ez_39 : z_39 = G.1 a 8 := ez_39
            have rz_39 : 1 ≤ z_39.toInt ∧ z_39.toInt ≤ 9 := rz_39
            refine lv_i2l hx hb dX2_firstWrong_54 rfl ?_
            refine lv_topl (fun z_40 ez_40 => ?_)
            have tz_40 : z_40.toInt = z_39.toInt := by rw [ez_40]; exact wide_t z_39
            refine W.lcmp hx hb dX2_firstWrong_55 ?_
            refine lv_topi (fun z_41 ez_41 => ?_)
            have tz_41 : (z_41.toInt < 0 ↔ z_26.toInt < z_40.toInt) ∧ (0 < z_41.toInt ↔ z_40.toInt < z_26.toInt) ∧ -1 ≤ z_41.toInt ∧ z_41.toInt ≤ 1 := cmp_t ez_41
            refine lv_if_le (tgt := 63) hx hb dX2_firstWrong_56 (by decide) (fun c_42 => ?_) (fun c_42 => ?_)
            · skip
              have tc_42 : z_41.toInt ≤ 0 := (fa_le _ _).mp c_42
              obtain ⟨z_43, ez_43⟩ : ∃ y : Int32, y = x1_3 + 1 := ⟨_, rfl⟩
              have tz_43 : z_43.toInt = x1_3.toInt + 1 := add_t ez_43 (show -2147483648 ≤ x1_3.toInt + 1 by omega) (show x1_3.toInt + 1 < 2147483648 by omega)
              refine lv_iinc (v := z_43) (lv' := [(3, .int z_43), (4, .int 0), (0, .ref a), (1, .ref b), (2, .int v)]) hx hb dX2_firstWrong_63 hl (k := 1) rfl (by rw [ez_43]; rfl) (by decide) rfl (fun ls hl => ?_)
              refine lv_goto (tgt := 2) hx hb dX2_firstWrong_66 (by decide) ?_
              exact ih1 (z_43) _ _ _ (by show (60 - z_43.toInt).toNat < (60 - x1_3.toInt).toNat; omega) ⟨(by show 0 ≤ z_43.toInt; omega), (by show z_43.toInt ≤ 60; omega), rfl, rfl, lv_sub hl [0, 2, 3, 4] rfl⟩
            · skip
              have tc_42 : ¬ z_41.toInt ≤ 0 := fun h => c_42 ((fa_le _ _).mpr h)
              refine lv_iload_n hx hb dX2_firstWrong_59 rfl (lv_at hl 1 rfl) ?_
              refine lv_iconst (v := 1) hx hb dX2_firstWrong_60 (by decide) ?_
              refine lv_iadd hx hb dX2_firstWrong_61 ?_
              refine lv_topi (fun z_44 ez_44 => ?_)
              have w_45 : z_24 = z_44 := ez_24.trans ez_44.symm
              subst w_45
              exact ret_i hx hb hr hlocks ⟨rfl, _, rfl, trivial⟩ (fun _ h => absurd h List.not_mem_nil) (Nat.le_refl _) (Nat.le_refl _) dX2_firstWrong_62
      · skip
        have tc_25 : ¬ z_24.toInt ≤ v.toInt := fun h => c_25 ((fa_le _ _).mpr h)
        refine lv_iconst (v := 1) hx hb dX2_firstWrong_19 (by decide) ?_
        refine lv_goto (tgt := 24) hx hb dX2_firstWrong_20 (by decide) ?_
        refine lv_istore (lv' := [(4, .int 1), (3, .int x1_3), (0, .ref a), (1, .ref b), (2, .int v)]) hx hb dX2_firstWrong_24 hl (by decide) rfl (fun ls hl => ?_)
        refine lv_aload_n hx hb dX2_firstWrong_26 rfl (lv_at hl 3 rfl) ?_
        refine lv_iload_n hx hb dX2_firstWrong_27 rfl (lv_at hl 1 rfl) ?_
        refine t_lald (n := n_2) (i := x1_3) rfl (by decide) hx hb hK hT h_b (en_2.symm) ⟨by omega, by omega⟩ dX2_firstWrong_28 (fun z_46 ez_46 => ?_)
        refine lv_lconst (v := 0) hx hb dX2_firstWrong_29 (by decide) ?_
        refine W.lcmp hx hb dX2_firstWrong_30 ?_
        refine lv_topi (fun z_47 ez_47 => ?_)
        have tz_47 : (z_47.toInt < 0 ↔ z_46.toInt < 0) ∧ (0 < z_47.toInt ↔ 0 < z_46.toInt) ∧ -1 ≤ z_47.toInt ∧ z_47.toInt ≤ 1 := cmp_t ez_47
        refine lv_if_eq (tgt := 63) hx hb dX2_firstWrong_31 (by decide) (fun c_48 => ?_) (fun c_48 => ?_)
        · skip
          have tc_48 : z_47.toInt = 0 := (fa_eq _ _).mp c_48
          obtain ⟨z_49, ez_49⟩ : ∃ y : Int32, y = x1_3 + 1 := ⟨_, rfl⟩
          have tz_49 : z_49.toInt = x1_3.toInt + 1 := add_t ez_49 (show -2147483648 ≤ x1_3.toInt + 1 by omega) (show x1_3.toInt + 1 < 2147483648 by omega)
          refine lv_iinc (v := z_49) (lv' := [(3, .int z_49), (4, .int 1), (0, .ref a), (1, .ref b), (2, .int v)]) hx hb dX2_firstWrong_63 hl (k := 1) rfl (by rw [ez_49]; rfl) (by decide) rfl (fun ls hl => ?_)
          refine lv_goto (tgt := 2) hx hb dX2_firstWrong_66 (by decide) ?_
          exact ih1 (z_49) _ _ _ (by show (60 - z_49.toInt).toNat < (60 - x1_3.toInt).toNat; omega) ⟨(by show 0 ≤ z_49.toInt; omega), (by show z_49.toInt ≤ 60; omega), rfl, rfl, lv_sub hl [0, 2, 3, 4] rfl⟩
        · skip
          have tc_48 : ¬ z_47.toInt = 0 := fun h => c_48 ((fa_eq _ _).mpr h)
          refine lv_iload hx hb dX2_firstWrong_34 (lv_at hl 0 rfl) ?_
          refine lv_if_ne (tgt := 59) hx hb dX2_firstWrong_36 (by decide) (fun _ => ?_) (fun c_50 => absurd c_50 (by decide))
          refine lv_iload_n hx hb dX2_firstWrong_59 rfl (lv_at hl 1 rfl) ?_
          refine lv_iconst (v := 1) hx hb dX2_firstWrong_60 (by decide) ?_
          refine lv_iadd hx hb dX2_firstWrong_61 ?_
          refine lv_topi (fun z_51 ez_51 => ?_)
          have w_52 : z_24 = z_51 := ez_24.trans ez_51.symm
          subst w_52
          exact ret_i hx hb hr hlocks ⟨rfl, _, rfl, trivial⟩ (fun _ h => absurd h List.not_mem_nil) (Nat.le_refl _) (Nat.le_refl _) dX2_firstWrong_62
