theorem dX9_isSacks_0 : decode cX9_isSacks 0 = .ok (.iload_n 0, 1) := by decide +kernel
theorem dX9_isSacks_1 : decode cX9_isSacks 1 = .ok (.ifCond .lt 14, 3) := by decide +kernel
theorem dX9_isSacks_15 : decode cX9_isSacks 15 = .ok (.iconst 0, 1) := by decide +kernel
theorem dX9_isSacks_16 : decode cX9_isSacks 16 = .ok (.ireturn, 1) := by decide +kernel
theorem dX9_isSacks_4 : decode cX9_isSacks 4 = .ok (.iload_n 0, 1) := by decide +kernel
theorem dX9_isSacks_5 : decode cX9_isSacks 5 = .ok (.sipush 999, 3) := by decide +kernel
theorem dX9_isSacks_8 : decode cX9_isSacks 8 = .ok (.if_icmp .gt 7, 3) := by decide +kernel
theorem dX9_isSacks_11 : decode cX9_isSacks 11 = .ok (.iconst 1, 1) := by decide +kernel
theorem dX9_isSacks_12 : decode cX9_isSacks 12 = .ok (.goto 4, 3) := by decide +kernel
theorem dX9_isHundredth_0 : decode cX9_isHundredth 0 = .ok (.iload_n 0, 1) := by decide +kernel
theorem dX9_isHundredth_1 : decode cX9_isHundredth 1 = .ok (.ifCond .lt 13, 3) := by decide +kernel
theorem dX9_isHundredth_14 : decode cX9_isHundredth 14 = .ok (.iconst 0, 1) := by decide +kernel
theorem dX9_isHundredth_15 : decode cX9_isHundredth 15 = .ok (.ireturn, 1) := by decide +kernel
theorem dX9_isHundredth_4 : decode cX9_isHundredth 4 = .ok (.iload_n 0, 1) := by decide +kernel
theorem dX9_isHundredth_5 : decode cX9_isHundredth 5 = .ok (.bipush 100, 2) := by decide +kernel
theorem dX9_isHundredth_7 : decode cX9_isHundredth 7 = .ok (.if_icmp .gt 7, 3) := by decide +kernel
theorem dX9_isHundredth_10 : decode cX9_isHundredth 10 = .ok (.iconst 1, 1) := by decide +kernel
theorem dX9_isHundredth_11 : decode cX9_isHundredth 11 = .ok (.goto 4, 3) := by decide +kernel
theorem dX9_isSeed_0 : decode cX9_isSeed 0 = .ok (.iload_n 0, 1) := by decide +kernel
theorem dX9_isSeed_1 : decode cX9_isSeed 1 = .ok (.ifCond .lt 14, 3) := by decide +kernel
theorem dX9_isSeed_15 : decode cX9_isSeed 15 = .ok (.iconst 0, 1) := by decide +kernel
theorem dX9_isSeed_16 : decode cX9_isSeed 16 = .ok (.ireturn, 1) := by decide +kernel
theorem dX9_isSeed_4 : decode cX9_isSeed 4 = .ok (.iload_n 0, 1) := by decide +kernel
theorem dX9_isSeed_5 : decode cX9_isSeed 5 = .ok (.ldc_w 383, 3) := by decide +kernel
theorem dX9_isSeed_8 : decode cX9_isSeed 8 = .ok (.if_icmp .gt 7, 3) := by decide +kernel
theorem dX9_isSeed_11 : decode cX9_isSeed 11 = .ok (.iconst 1, 1) := by decide +kernel
theorem dX9_isSeed_12 : decode cX9_isSeed 12 = .ok (.goto 4, 3) := by decide +kernel
theorem dX9_isSlot_0 : decode cX9_isSlot 0 = .ok (.iload_n 0, 1) := by decide +kernel
theorem dX9_isSlot_1 : decode cX9_isSlot 1 = .ok (.ifCond .lt 12, 3) := by decide +kernel
theorem dX9_isSlot_13 : decode cX9_isSlot 13 = .ok (.iconst 0, 1) := by decide +kernel
theorem dX9_isSlot_14 : decode cX9_isSlot 14 = .ok (.ireturn, 1) := by decide +kernel
theorem dX9_isSlot_4 : decode cX9_isSlot 4 = .ok (.iload_n 0, 1) := by decide +kernel
theorem dX9_isSlot_5 : decode cX9_isSlot 5 = .ok (.iconst 4, 1) := by decide +kernel
theorem dX9_isSlot_6 : decode cX9_isSlot 6 = .ok (.if_icmp .ge 7, 3) := by decide +kernel
theorem dX9_isSlot_9 : decode cX9_isSlot 9 = .ok (.iconst 1, 1) := by decide +kernel
theorem dX9_isSlot_10 : decode cX9_isSlot 10 = .ok (.goto 4, 3) := by decide +kernel
theorem dX9_slotsInUse_0 : decode cX9_slotsInUse 0 = .ok (.iconst 0, 1) := by decide +kernel
theorem dX9_slotsInUse_1 : decode cX9_slotsInUse 1 = .ok (.istore_n 1, 1) := by decide +kernel
theorem dX9_slotsInUse_2 : decode cX9_slotsInUse 2 = .ok (.iconst 0, 1) := by decide +kernel
theorem dX9_slotsInUse_3 : decode cX9_slotsInUse 3 = .ok (.istore_n 2, 1) := by decide +kernel
theorem dX9_slotsInUse_4 : decode cX9_slotsInUse 4 = .ok (.iload_n 2, 1) := by decide +kernel
theorem dX9_slotsInUse_5 : decode cX9_slotsInUse 5 = .ok (.iconst 4, 1) := by decide +kernel
theorem dX9_slotsInUse_6 : decode cX9_slotsInUse 6 = .ok (.if_icmp .ge 26, 3) := by decide +kernel
theorem dX9_slotsInUse_32 : decode cX9_slotsInUse 32 = .ok (.iload_n 1, 1) := by decide +kernel
theorem dX9_slotsInUse_33 : decode cX9_slotsInUse 33 = .ok (.ireturn, 1) := by decide +kernel
theorem dX9_slotsInUse_9 : decode cX9_slotsInUse 9 = .ok (.iload_n 1, 1) := by decide +kernel
theorem dX9_slotsInUse_10 : decode cX9_slotsInUse 10 = .ok (.aload_n 0, 1) := by decide +kernel
theorem dX9_slotsInUse_11 : decode cX9_slotsInUse 11 = .ok (.getfield 54, 3) := by decide +kernel
theorem dX9_slotsInUse_14 : decode cX9_slotsInUse 14 = .ok (.iload_n 2, 1) := by decide +kernel
theorem dX9_slotsInUse_15 : decode cX9_slotsInUse 15 = .ok (.aaload, 1) := by decide +kernel
theorem dX9_slotsInUse_16 : decode cX9_slotsInUse 16 = .ok (.ifnonnull 7, 3) := by decide +kernel
theorem dX9_slotsInUse_19 : decode cX9_slotsInUse 19 = .ok (.iconst 0, 1) := by decide +kernel
theorem dX9_slotsInUse_20 : decode cX9_slotsInUse 20 = .ok (.goto 4, 3) := by decide +kernel
theorem dX9_slotsInUse_24 : decode cX9_slotsInUse 24 = .ok (.iadd, 1) := by decide +kernel
theorem dX9_slotsInUse_25 : decode cX9_slotsInUse 25 = .ok (.istore_n 1, 1) := by decide +kernel
theorem dX9_slotsInUse_26 : decode cX9_slotsInUse 26 = .ok (.iinc 2 1, 3) := by decide +kernel
theorem dX9_slotsInUse_29 : decode cX9_slotsInUse 29 = .ok (.goto (-25), 3) := by decide +kernel
theorem dX9_slotsInUse_23 : decode cX9_slotsInUse 23 = .ok (.iconst 1, 1) := by decide +kernel
theorem dX9_tapeFour_0 : decode cX9_tapeFour 0 = .ok (.bipush 24, 2) := by decide +kernel
theorem dX9_tapeFour_2 : decode cX9_tapeFour 2 = .ok (.istore_n 2, 1) := by decide +kernel
theorem dX9_tapeFour_3 : decode cX9_tapeFour 3 = .ok (.iload_n 2, 1) := by decide +kernel
theorem dX9_tapeFour_4 : decode cX9_tapeFour 4 = .ok (.ifCond .lt 42, 3) := by decide +kernel
theorem dX9_tapeFour_46 : decode cX9_tapeFour 46 = .ok (.return_, 1) := by decide +kernel
theorem dX9_tapeFour_7 : decode cX9_tapeFour 7 = .ok (.aload_n 0, 1) := by decide +kernel
theorem dX9_tapeFour_8 : decode cX9_tapeFour 8 = .ok (.getfield 75, 3) := by decide +kernel
theorem dX9_tapeFour_11 : decode cX9_tapeFour 11 = .ok (.sipush 1600, 3) := by decide +kernel
theorem dX9_tapeFour_14 : decode cX9_tapeFour 14 = .ok (.if_icmp .ge 26, 3) := by decide +kernel
theorem dX9_tapeFour_40 : decode cX9_tapeFour 40 = .ok (.iinc 2 (-8), 3) := by decide +kernel
theorem dX9_tapeFour_43 : decode cX9_tapeFour 43 = .ok (.goto (-40), 3) := by decide +kernel
theorem dX9_tapeFour_17 : decode cX9_tapeFour 17 = .ok (.aload_n 0, 1) := by decide +kernel
theorem dX9_tapeFour_18 : decode cX9_tapeFour 18 = .ok (.getfield 9, 3) := by decide +kernel
theorem dX9_tapeFour_21 : decode cX9_tapeFour 21 = .ok (.aload_n 0, 1) := by decide +kernel
theorem dX9_tapeFour_22 : decode cX9_tapeFour 22 = .ok (.getfield 75, 3) := by decide +kernel
theorem dX9_tapeFour_25 : decode cX9_tapeFour 25 = .ok (.iload_n 1, 1) := by decide +kernel
theorem dX9_tapeFour_26 : decode cX9_tapeFour 26 = .ok (.iload_n 2, 1) := by decide +kernel
theorem dX9_tapeFour_27 : decode cX9_tapeFour 27 = .ok (.ishr, 1) := by decide +kernel
theorem dX9_tapeFour_28 : decode cX9_tapeFour 28 = .ok (.i2b, 1) := by decide +kernel
theorem dX9_tapeFour_29 : decode cX9_tapeFour 29 = .ok (.bastore, 1) := by decide +kernel
theorem dX9_tapeFour_30 : decode cX9_tapeFour 30 = .ok (.aload_n 0, 1) := by decide +kernel
theorem dX9_tapeFour_31 : decode cX9_tapeFour 31 = .ok (.dup, 1) := by decide +kernel
theorem dX9_tapeFour_32 : decode cX9_tapeFour 32 = .ok (.getfield 75, 3) := by decide +kernel
theorem dX9_tapeFour_35 : decode cX9_tapeFour 35 = .ok (.iconst 1, 1) := by decide +kernel
theorem dX9_tapeFour_36 : decode cX9_tapeFour 36 = .ok (.iadd, 1) := by decide +kernel
theorem dX9_tapeFour_37 : decode cX9_tapeFour 37 = .ok (.putfield 75, 3) := by decide +kernel
theorem dX9_feed_0 : decode cX9_feed 0 = .ok (.aload_n 0, 1) := by decide +kernel
theorem dX9_feed_1 : decode cX9_feed 1 = .ok (.getfield 75, 3) := by decide +kernel
theorem dX9_feed_4 : decode cX9_feed 4 = .ok (.bipush 20, 2) := by decide +kernel
theorem dX9_feed_6 : decode cX9_feed 6 = .ok (.iadd, 1) := by decide +kernel
theorem dX9_feed_7 : decode cX9_feed 7 = .ok (.sipush 1600, 3) := by decide +kernel
theorem dX9_feed_10 : decode cX9_feed 10 = .ok (.if_icmp .le 5, 3) := by decide +kernel
theorem dX9_feed_15 : decode cX9_feed 15 = .ok (.aload_n 0, 1) := by decide +kernel
theorem dX9_feed_16 : decode cX9_feed 16 = .ok (.iload_n 1, 1) := by decide +kernel
theorem dX9_feed_17 : decode cX9_feed 17 = .ok (.invokevirtual 78, 3) := by decide +kernel
theorem dX9_feed_20 : decode cX9_feed 20 = .ok (.aload_n 0, 1) := by decide +kernel
theorem dX9_feed_21 : decode cX9_feed 21 = .ok (.iload_n 2, 1) := by decide +kernel
theorem dX9_feed_22 : decode cX9_feed 22 = .ok (.invokevirtual 78, 3) := by decide +kernel
theorem dX9_feed_25 : decode cX9_feed 25 = .ok (.aload_n 0, 1) := by decide +kernel
theorem dX9_feed_26 : decode cX9_feed 26 = .ok (.iload_n 3, 1) := by decide +kernel
theorem dX9_feed_27 : decode cX9_feed 27 = .ok (.invokevirtual 78, 3) := by decide +kernel
theorem dX9_feed_30 : decode cX9_feed 30 = .ok (.aload_n 0, 1) := by decide +kernel
theorem dX9_feed_31 : decode cX9_feed 31 = .ok (.iload 4, 2) := by decide +kernel
theorem dX9_feed_33 : decode cX9_feed 33 = .ok (.invokevirtual 78, 3) := by decide +kernel
theorem dX9_feed_36 : decode cX9_feed 36 = .ok (.aload_n 0, 1) := by decide +kernel
theorem dX9_feed_37 : decode cX9_feed 37 = .ok (.iload 5, 2) := by decide +kernel
theorem dX9_feed_39 : decode cX9_feed 39 = .ok (.invokevirtual 78, 3) := by decide +kernel
theorem dX9_feed_42 : decode cX9_feed 42 = .ok (.aload_n 0, 1) := by decide +kernel
theorem dX9_feed_43 : decode cX9_feed 43 = .ok (.getfield 75, 3) := by decide +kernel
theorem dX9_feed_46 : decode cX9_feed 46 = .ok (.ireturn, 1) := by decide +kernel
theorem dX9_feed_13 : decode cX9_feed 13 = .ok (.iconst (-1), 1) := by decide +kernel
theorem dX9_feed_14 : decode cX9_feed 14 = .ok (.ireturn, 1) := by decide +kernel
theorem dX9_end_0 : decode cX9_end 0 = .ok (.iload_n 1, 1) := by decide +kernel
theorem dX9_end_1 : decode cX9_end 1 = .ok (.ifCond .lt 11, 3) := by decide +kernel
theorem dX9_end_12 : decode cX9_end 12 = .ok (.iconst (-1), 1) := by decide +kernel
theorem dX9_end_13 : decode cX9_end 13 = .ok (.ireturn, 1) := by decide +kernel
theorem dX9_end_4 : decode cX9_end 4 = .ok (.iload_n 1, 1) := by decide +kernel
theorem dX9_end_5 : decode cX9_end 5 = .ok (.aload_n 0, 1) := by decide +kernel
theorem dX9_end_6 : decode cX9_end 6 = .ok (.getfield 75, 3) := by decide +kernel
theorem dX9_end_9 : decode cX9_end 9 = .ok (.if_icmp .le 5, 3) := by decide +kernel
theorem dX9_end_14 : decode cX9_end 14 = .ok (.aload_n 0, 1) := by decide +kernel
theorem dX9_end_15 : decode cX9_end 15 = .ok (.iload_n 1, 1) := by decide +kernel
theorem dX9_end_16 : decode cX9_end 16 = .ok (.putfield 75, 3) := by decide +kernel
theorem dX9_end_19 : decode cX9_end 19 = .ok (.iload_n 1, 1) := by decide +kernel
theorem dX9_end_20 : decode cX9_end 20 = .ok (.ireturn, 1) := by decide +kernel
theorem dX9_fault_0 : decode cX9_fault 0 = .ok (.iload_n 1, 1) := by decide +kernel
theorem dX9_fault_1 : decode cX9_fault 1 = .ok (.ifCond .ne 8, 3) := by decide +kernel
theorem dX9_fault_9 : decode cX9_fault 9 = .ok (.iload_n 1, 1) := by decide +kernel
theorem dX9_fault_10 : decode cX9_fault 10 = .ok (.iconst 1, 1) := by decide +kernel
theorem dX9_fault_11 : decode cX9_fault 11 = .ok (.if_icmp .ne 10, 3) := by decide +kernel
theorem dX9_fault_21 : decode cX9_fault 21 = .ok (.iconst (-1), 1) := by decide +kernel
theorem dX9_fault_22 : decode cX9_fault 22 = .ok (.ireturn, 1) := by decide +kernel
theorem dX9_fault_14 : decode cX9_fault 14 = .ok (.aload_n 0, 1) := by decide +kernel
theorem dX9_fault_15 : decode cX9_fault 15 = .ok (.getfield 71, 3) := by decide +kernel
theorem dX9_fault_18 : decode cX9_fault 18 = .ok (.goto 4, 3) := by decide +kernel
theorem dX9_fault_4 : decode cX9_fault 4 = .ok (.aload_n 0, 1) := by decide +kernel
theorem dX9_fault_5 : decode cX9_fault 5 = .ok (.getfield 89, 3) := by decide +kernel
theorem dX9_fault_8 : decode cX9_fault 8 = .ok (.ireturn, 1) := by decide +kernel
theorem dX9_shuts_0 : decode cX9_shuts 0 = .ok (.aload_n 0, 1) := by decide +kernel
theorem dX9_shuts_1 : decode cX9_shuts 1 = .ok (.getfield 67, 3) := by decide +kernel
theorem dX9_shuts_4 : decode cX9_shuts 4 = .ok (.iload_n 1, 1) := by decide +kernel
theorem dX9_shuts_5 : decode cX9_shuts 5 = .ok (.invokevirtual 99, 3) := by decide +kernel
theorem dX9_shuts_8 : decode cX9_shuts 8 = .ok (.ifCond .eq 14, 3) := by decide +kernel
theorem dX9_shuts_11 : decode cX9_shuts 11 = .ok (.aload_n 0, 1) := by decide +kernel
theorem dX9_shuts_12 : decode cX9_shuts 12 = .ok (.getfield 67, 3) := by decide +kernel
theorem dX9_shuts_15 : decode cX9_shuts 15 = .ok (.iload_n 2, 1) := by decide +kernel
theorem dX9_shuts_16 : decode cX9_shuts 16 = .ok (.invokevirtual 103, 3) := by decide +kernel
theorem dX9_shuts_19 : decode cX9_shuts 19 = .ok (.ifCond .ne 7, 3) := by decide +kernel
theorem dX9_shuts_26 : decode cX9_shuts 26 = .ok (.aload_n 0, 1) := by decide +kernel
theorem dX9_shuts_27 : decode cX9_shuts 27 = .ok (.getfield 23, 3) := by decide +kernel
theorem dX9_shuts_30 : decode cX9_shuts 30 = .ok (.getfield 108, 3) := by decide +kernel
theorem dX9_shuts_33 : decode cX9_shuts 33 = .ok (.aload_n 0, 1) := by decide +kernel
theorem dX9_shuts_34 : decode cX9_shuts 34 = .ok (.getfield 67, 3) := by decide +kernel
theorem dX9_shuts_37 : decode cX9_shuts 37 = .ok (.iload_n 1, 1) := by decide +kernel
theorem dX9_shuts_38 : decode cX9_shuts 38 = .ok (.invokevirtual 112, 3) := by decide +kernel
theorem dX9_shuts_41 : decode cX9_shuts 41 = .ok (.aload_n 0, 1) := by decide +kernel
theorem dX9_shuts_42 : decode cX9_shuts 42 = .ok (.getfield 23, 3) := by decide +kernel
theorem dX9_shuts_45 : decode cX9_shuts 45 = .ok (.getfield 108, 3) := by decide +kernel
theorem dX9_shuts_48 : decode cX9_shuts 48 = .ok (.iload_n 2, 1) := by decide +kernel
theorem dX9_shuts_49 : decode cX9_shuts 49 = .ok (.invokevirtual 118, 3) := by decide +kernel
theorem dX9_shuts_52 : decode cX9_shuts 52 = .ok (.lreturn, 1) := by decide +kernel
theorem dX9_shuts_22 : decode cX9_shuts 22 = .ok (.ldc2_w 106, 3) := by decide +kernel
theorem dX9_shuts_25 : decode cX9_shuts 25 = .ok (.lreturn, 1) := by decide +kernel
theorem dX9_by_0 : decode cX9_by 0 = .ok (.aload_n 0, 1) := by decide +kernel
theorem dX9_by_1 : decode cX9_by 1 = .ok (.getfield 67, 3) := by decide +kernel
theorem dX9_by_4 : decode cX9_by 4 = .ok (.iload_n 1, 1) := by decide +kernel
theorem dX9_by_5 : decode cX9_by 5 = .ok (.invokevirtual 99, 3) := by decide +kernel
theorem dX9_by_8 : decode cX9_by 8 = .ok (.ifCond .eq 14, 3) := by decide +kernel
theorem dX9_by_11 : decode cX9_by 11 = .ok (.aload_n 0, 1) := by decide +kernel
theorem dX9_by_12 : decode cX9_by 12 = .ok (.getfield 67, 3) := by decide +kernel
theorem dX9_by_15 : decode cX9_by 15 = .ok (.iload_n 2, 1) := by decide +kernel
theorem dX9_by_16 : decode cX9_by 16 = .ok (.invokevirtual 122, 3) := by decide +kernel
theorem dX9_by_19 : decode cX9_by 19 = .ok (.ifCond .ne 7, 3) := by decide +kernel
theorem dX9_by_26 : decode cX9_by 26 = .ok (.aload_n 0, 1) := by decide +kernel
theorem dX9_by_27 : decode cX9_by 27 = .ok (.getfield 23, 3) := by decide +kernel
theorem dX9_by_30 : decode cX9_by 30 = .ok (.getfield 108, 3) := by decide +kernel
theorem dX9_by_33 : decode cX9_by 33 = .ok (.aload_n 0, 1) := by decide +kernel
theorem dX9_by_34 : decode cX9_by 34 = .ok (.getfield 67, 3) := by decide +kernel
theorem dX9_by_37 : decode cX9_by 37 = .ok (.iload_n 1, 1) := by decide +kernel
theorem dX9_by_38 : decode cX9_by 38 = .ok (.invokevirtual 112, 3) := by decide +kernel
theorem dX9_by_41 : decode cX9_by 41 = .ok (.lconst 0, 1) := by decide +kernel
theorem dX9_by_42 : decode cX9_by 42 = .ok (.lstore_n 3, 1) := by decide +kernel
theorem dX9_by_43 : decode cX9_by 43 = .ok (.iconst 1, 1) := by decide +kernel
theorem dX9_by_44 : decode cX9_by 44 = .ok (.istore 5, 2) := by decide +kernel
theorem dX9_by_46 : decode cX9_by 46 = .ok (.iload 5, 2) := by decide +kernel
theorem dX9_by_48 : decode cX9_by 48 = .ok (.iload_n 2, 1) := by decide +kernel
theorem dX9_by_49 : decode cX9_by 49 = .ok (.if_icmp .gt 24, 3) := by decide +kernel
theorem dX9_by_73 : decode cX9_by 73 = .ok (.lload_n 3, 1) := by decide +kernel
theorem dX9_by_74 : decode cX9_by 74 = .ok (.lreturn, 1) := by decide +kernel
theorem dX9_by_52 : decode cX9_by 52 = .ok (.lload_n 3, 1) := by decide +kernel
theorem dX9_by_53 : decode cX9_by 53 = .ok (.aload_n 0, 1) := by decide +kernel
theorem dX9_by_54 : decode cX9_by 54 = .ok (.getfield 23, 3) := by decide +kernel
theorem dX9_by_57 : decode cX9_by 57 = .ok (.getfield 108, 3) := by decide +kernel
theorem dX9_by_60 : decode cX9_by 60 = .ok (.iload 5, 2) := by decide +kernel
theorem dX9_by_62 : decode cX9_by 62 = .ok (.invokevirtual 118, 3) := by decide +kernel
theorem dX9_by_65 : decode cX9_by 65 = .ok (.ladd, 1) := by decide +kernel
theorem dX9_by_66 : decode cX9_by 66 = .ok (.lstore_n 3, 1) := by decide +kernel
theorem dX9_by_67 : decode cX9_by 67 = .ok (.iinc 5 1, 3) := by decide +kernel
theorem dX9_by_70 : decode cX9_by 70 = .ok (.goto (-24), 3) := by decide +kernel
theorem dX9_by_22 : decode cX9_by 22 = .ok (.ldc2_w 106, 3) := by decide +kernel
theorem dX9_by_25 : decode cX9_by 25 = .ok (.lreturn, 1) := by decide +kernel
theorem dX9_both_0 : decode cX9_both 0 = .ok (.aload_n 0, 1) := by decide +kernel
theorem dX9_both_1 : decode cX9_both 1 = .ok (.getfield 67, 3) := by decide +kernel
theorem dX9_both_4 : decode cX9_both 4 = .ok (.iload_n 1, 1) := by decide +kernel
theorem dX9_both_5 : decode cX9_both 5 = .ok (.iload_n 3, 1) := by decide +kernel
theorem dX9_both_6 : decode cX9_both 6 = .ok (.invokevirtual 125, 3) := by decide +kernel
theorem dX9_both_9 : decode cX9_both 9 = .ok (.ifCond .eq 26, 3) := by decide +kernel
theorem dX9_both_12 : decode cX9_both 12 = .ok (.aload_n 0, 1) := by decide +kernel
theorem dX9_both_13 : decode cX9_both 13 = .ok (.getfield 67, 3) := by decide +kernel
theorem dX9_both_16 : decode cX9_both 16 = .ok (.iload_n 2, 1) := by decide +kernel
theorem dX9_both_17 : decode cX9_both 17 = .ok (.invokevirtual 103, 3) := by decide +kernel
theorem dX9_both_20 : decode cX9_both 20 = .ok (.ifCond .eq 15, 3) := by decide +kernel
theorem dX9_both_23 : decode cX9_both 23 = .ok (.aload_n 0, 1) := by decide +kernel
theorem dX9_both_24 : decode cX9_both 24 = .ok (.getfield 67, 3) := by decide +kernel
theorem dX9_both_27 : decode cX9_both 27 = .ok (.iload 4, 2) := by decide +kernel
theorem dX9_both_29 : decode cX9_both 29 = .ok (.invokevirtual 103, 3) := by decide +kernel
theorem dX9_both_32 : decode cX9_both 32 = .ok (.ifCond .ne 7, 3) := by decide +kernel
theorem dX9_both_39 : decode cX9_both 39 = .ok (.aload_n 0, 1) := by decide +kernel
theorem dX9_both_40 : decode cX9_both 40 = .ok (.getfield 23, 3) := by decide +kernel
theorem dX9_both_43 : decode cX9_both 43 = .ok (.getfield 108, 3) := by decide +kernel
theorem dX9_both_46 : decode cX9_both 46 = .ok (.aload_n 0, 1) := by decide +kernel
theorem dX9_both_47 : decode cX9_both 47 = .ok (.getfield 67, 3) := by decide +kernel
theorem dX9_both_50 : decode cX9_both 50 = .ok (.iload_n 1, 1) := by decide +kernel
theorem dX9_both_51 : decode cX9_both 51 = .ok (.iload_n 3, 1) := by decide +kernel
theorem dX9_both_52 : decode cX9_both 52 = .ok (.invokevirtual 129, 3) := by decide +kernel
theorem dX9_both_55 : decode cX9_both 55 = .ok (.aload_n 0, 1) := by decide +kernel
theorem dX9_both_56 : decode cX9_both 56 = .ok (.getfield 23, 3) := by decide +kernel
theorem dX9_both_59 : decode cX9_both 59 = .ok (.getfield 108, 3) := by decide +kernel
theorem dX9_both_62 : decode cX9_both 62 = .ok (.iload_n 2, 1) := by decide +kernel
theorem dX9_both_63 : decode cX9_both 63 = .ok (.iload 4, 2) := by decide +kernel
theorem dX9_both_65 : decode cX9_both 65 = .ok (.invokevirtual 133, 3) := by decide +kernel
theorem dX9_both_68 : decode cX9_both 68 = .ok (.lreturn, 1) := by decide +kernel
theorem dX9_both_35 : decode cX9_both 35 = .ok (.ldc2_w 106, 3) := by decide +kernel
theorem dX9_both_38 : decode cX9_both 38 = .ok (.lreturn, 1) := by decide +kernel
theorem dX9_together_0 : decode cX9_together 0 = .ok (.aload_n 0, 1) := by decide +kernel
theorem dX9_together_1 : decode cX9_together 1 = .ok (.getfield 67, 3) := by decide +kernel
theorem dX9_together_4 : decode cX9_together 4 = .ok (.iload_n 1, 1) := by decide +kernel
theorem dX9_together_5 : decode cX9_together 5 = .ok (.invokevirtual 122, 3) := by decide +kernel
theorem dX9_together_8 : decode cX9_together 8 = .ok (.ifCond .eq 18, 3) := by decide +kernel
theorem dX9_together_11 : decode cX9_together 11 = .ok (.iload_n 2, 1) := by decide +kernel
theorem dX9_together_12 : decode cX9_together 12 = .ok (.ifCond .lt 14, 3) := by decide +kernel
theorem dX9_together_26 : decode cX9_together 26 = .ok (.ldc2_w 106, 3) := by decide +kernel
theorem dX9_together_29 : decode cX9_together 29 = .ok (.lreturn, 1) := by decide +kernel
theorem dX9_together_15 : decode cX9_together 15 = .ok (.iload_n 2, 1) := by decide +kernel
theorem dX9_together_16 : decode cX9_together 16 = .ok (.aload_n 0, 1) := by decide +kernel
theorem dX9_together_17 : decode cX9_together 17 = .ok (.getfield 67, 3) := by decide +kernel
theorem dX9_together_20 : decode cX9_together 20 = .ok (.getfield 137, 3) := by decide +kernel
theorem dX9_together_23 : decode cX9_together 23 = .ok (.if_icmp .le 7, 3) := by decide +kernel
theorem dX9_together_30 : decode cX9_together 30 = .ok (.aload_n 0, 1) := by decide +kernel
theorem dX9_together_31 : decode cX9_together 31 = .ok (.getfield 23, 3) := by decide +kernel
theorem dX9_together_34 : decode cX9_together 34 = .ok (.getfield 108, 3) := by decide +kernel
theorem dX9_together_37 : decode cX9_together 37 = .ok (.aload_n 0, 1) := by decide +kernel
theorem dX9_together_38 : decode cX9_together 38 = .ok (.getfield 67, 3) := by decide +kernel
theorem dX9_together_41 : decode cX9_together 41 = .ok (.iload_n 1, 1) := by decide +kernel
theorem dX9_together_42 : decode cX9_together 42 = .ok (.invokevirtual 140, 3) := by decide +kernel
theorem dX9_together_45 : decode cX9_together 45 = .ok (.lconst 0, 1) := by decide +kernel
theorem dX9_together_46 : decode cX9_together 46 = .ok (.lstore_n 3, 1) := by decide +kernel
theorem dX9_together_47 : decode cX9_together 47 = .ok (.iconst 0, 1) := by decide +kernel
theorem dX9_together_48 : decode cX9_together 48 = .ok (.istore 5, 2) := by decide +kernel
theorem dX9_together_50 : decode cX9_together 50 = .ok (.iload 5, 2) := by decide +kernel
theorem dX9_together_52 : decode cX9_together 52 = .ok (.iconst 1, 1) := by decide +kernel
theorem dX9_together_53 : decode cX9_together 53 = .ok (.aload_n 0, 1) := by decide +kernel
theorem dX9_together_54 : decode cX9_together 54 = .ok (.getfield 67, 3) := by decide +kernel
theorem dX9_together_57 : decode cX9_together 57 = .ok (.getfield 137, 3) := by decide +kernel
theorem dX9_together_60 : decode cX9_together 60 = .ok (.ishl, 1) := by decide +kernel
theorem dX9_together_61 : decode cX9_together 61 = .ok (.if_icmp .ge 33, 3) := by decide +kernel
theorem dX9_together_94 : decode cX9_together 94 = .ok (.lload_n 3, 1) := by decide +kernel
theorem dX9_together_95 : decode cX9_together 95 = .ok (.lreturn, 1) := by decide +kernel
theorem dX9_together_64 : decode cX9_together 64 = .ok (.iload 5, 2) := by decide +kernel
theorem dX9_together_66 : decode cX9_together 66 = .ok (.invokestatic 143, 3) := by decide +kernel
theorem dX9_together_69 : decode cX9_together 69 = .ok (.iload_n 2, 1) := by decide +kernel
theorem dX9_together_70 : decode cX9_together 70 = .ok (.if_icmp .ne 18, 3) := by decide +kernel
theorem dX9_together_88 : decode cX9_together 88 = .ok (.iinc 5 1, 3) := by decide +kernel
theorem dX9_together_91 : decode cX9_together 91 = .ok (.goto (-41), 3) := by decide +kernel
theorem dX9_together_73 : decode cX9_together 73 = .ok (.lload_n 3, 1) := by decide +kernel
theorem dX9_together_74 : decode cX9_together 74 = .ok (.aload_n 0, 1) := by decide +kernel
theorem dX9_together_75 : decode cX9_together 75 = .ok (.getfield 23, 3) := by decide +kernel
theorem dX9_together_78 : decode cX9_together 78 = .ok (.getfield 108, 3) := by decide +kernel
theorem dX9_together_81 : decode cX9_together 81 = .ok (.iload 5, 2) := by decide +kernel
theorem dX9_together_83 : decode cX9_together 83 = .ok (.invokevirtual 149, 3) := by decide +kernel
theorem dX9_together_86 : decode cX9_together 86 = .ok (.ladd, 1) := by decide +kernel
theorem dX9_together_87 : decode cX9_together 87 = .ok (.lstore_n 3, 1) := by decide +kernel
theorem dX9_set_0 : decode cX9_set 0 = .ok (.aload_n 0, 1) := by decide +kernel
theorem dX9_set_1 : decode cX9_set 1 = .ok (.getfield 67, 3) := by decide +kernel
theorem dX9_set_4 : decode cX9_set 4 = .ok (.iload_n 1, 1) := by decide +kernel
theorem dX9_set_5 : decode cX9_set 5 = .ok (.invokevirtual 122, 3) := by decide +kernel
theorem dX9_set_8 : decode cX9_set 8 = .ok (.ifCond .eq 14, 3) := by decide +kernel
theorem dX9_set_11 : decode cX9_set 11 = .ok (.aload_n 0, 1) := by decide +kernel
theorem dX9_set_12 : decode cX9_set 12 = .ok (.getfield 67, 3) := by decide +kernel
theorem dX9_set_15 : decode cX9_set 15 = .ok (.iload_n 2, 1) := by decide +kernel
theorem dX9_set_16 : decode cX9_set 16 = .ok (.invokevirtual 152, 3) := by decide +kernel
theorem dX9_set_19 : decode cX9_set 19 = .ok (.ifCond .ne 7, 3) := by decide +kernel
theorem dX9_set_26 : decode cX9_set 26 = .ok (.aload_n 0, 1) := by decide +kernel
theorem dX9_set_27 : decode cX9_set 27 = .ok (.getfield 23, 3) := by decide +kernel
theorem dX9_set_30 : decode cX9_set 30 = .ok (.getfield 108, 3) := by decide +kernel
theorem dX9_set_33 : decode cX9_set 33 = .ok (.aload_n 0, 1) := by decide +kernel
theorem dX9_set_34 : decode cX9_set 34 = .ok (.getfield 67, 3) := by decide +kernel
theorem dX9_set_37 : decode cX9_set 37 = .ok (.iload_n 1, 1) := by decide +kernel
theorem dX9_set_38 : decode cX9_set 38 = .ok (.invokevirtual 140, 3) := by decide +kernel
theorem dX9_set_41 : decode cX9_set 41 = .ok (.aload_n 0, 1) := by decide +kernel
theorem dX9_set_42 : decode cX9_set 42 = .ok (.getfield 23, 3) := by decide +kernel
theorem dX9_set_45 : decode cX9_set 45 = .ok (.getfield 108, 3) := by decide +kernel
theorem dX9_set_48 : decode cX9_set 48 = .ok (.iload_n 2, 1) := by decide +kernel
theorem dX9_set_49 : decode cX9_set 49 = .ok (.invokevirtual 149, 3) := by decide +kernel
theorem dX9_set_52 : decode cX9_set 52 = .ok (.lreturn, 1) := by decide +kernel
theorem dX9_set_22 : decode cX9_set 22 = .ok (.ldc2_w 106, 3) := by decide +kernel
theorem dX9_set_25 : decode cX9_set 25 = .ok (.lreturn, 1) := by decide +kernel
theorem dX9_when_0 : decode cX9_when 0 = .ok (.aload_n 0, 1) := by decide +kernel
theorem dX9_when_1 : decode cX9_when 1 = .ok (.getfield 67, 3) := by decide +kernel
theorem dX9_when_4 : decode cX9_when 4 = .ok (.iload_n 1, 1) := by decide +kernel
theorem dX9_when_5 : decode cX9_when 5 = .ok (.invokevirtual 99, 3) := by decide +kernel
theorem dX9_when_8 : decode cX9_when 8 = .ok (.ifCond .eq 15, 3) := by decide +kernel
theorem dX9_when_11 : decode cX9_when 11 = .ok (.iload_n 2, 1) := by decide +kernel
theorem dX9_when_12 : decode cX9_when 12 = .ok (.iconst 1, 1) := by decide +kernel
theorem dX9_when_13 : decode cX9_when 13 = .ok (.if_icmp .lt 10, 3) := by decide +kernel
theorem dX9_when_23 : decode cX9_when 23 = .ok (.bipush (-2), 2) := by decide +kernel
theorem dX9_when_25 : decode cX9_when 25 = .ok (.ireturn, 1) := by decide +kernel
theorem dX9_when_16 : decode cX9_when 16 = .ok (.iload_n 2, 1) := by decide +kernel
theorem dX9_when_17 : decode cX9_when 17 = .ok (.sipush 1000, 3) := by decide +kernel
theorem dX9_when_20 : decode cX9_when 20 = .ok (.if_icmp .le 6, 3) := by decide +kernel
theorem dX9_when_26 : decode cX9_when 26 = .ok (.aload_n 0, 1) := by decide +kernel
theorem dX9_when_27 : decode cX9_when 27 = .ok (.getfield 23, 3) := by decide +kernel
theorem dX9_when_30 : decode cX9_when 30 = .ok (.getfield 108, 3) := by decide +kernel
theorem dX9_when_33 : decode cX9_when 33 = .ok (.aload_n 0, 1) := by decide +kernel
theorem dX9_when_34 : decode cX9_when 34 = .ok (.getfield 67, 3) := by decide +kernel
theorem dX9_when_37 : decode cX9_when 37 = .ok (.iload_n 1, 1) := by decide +kernel
theorem dX9_when_38 : decode cX9_when 38 = .ok (.invokevirtual 112, 3) := by decide +kernel
theorem dX9_when_41 : decode cX9_when 41 = .ok (.lconst 0, 1) := by decide +kernel
theorem dX9_when_42 : decode cX9_when 42 = .ok (.lstore_n 3, 1) := by decide +kernel
theorem dX9_when_43 : decode cX9_when 43 = .ok (.iconst 1, 1) := by decide +kernel
theorem dX9_when_44 : decode cX9_when 44 = .ok (.istore 5, 2) := by decide +kernel
theorem dX9_when_46 : decode cX9_when 46 = .ok (.iload 5, 2) := by decide +kernel
theorem dX9_when_48 : decode cX9_when 48 = .ok (.aload_n 0, 1) := by decide +kernel
theorem dX9_when_49 : decode cX9_when 49 = .ok (.getfield 67, 3) := by decide +kernel
theorem dX9_when_52 : decode cX9_when 52 = .ok (.getfield 155, 3) := by decide +kernel
theorem dX9_when_55 : decode cX9_when 55 = .ok (.if_icmp .gt 38, 3) := by decide +kernel
theorem dX9_when_93 : decode cX9_when 93 = .ok (.iconst (-1), 1) := by decide +kernel
theorem dX9_when_94 : decode cX9_when 94 = .ok (.ireturn, 1) := by decide +kernel
theorem dX9_when_58 : decode cX9_when 58 = .ok (.lload_n 3, 1) := by decide +kernel
theorem dX9_when_59 : decode cX9_when 59 = .ok (.aload_n 0, 1) := by decide +kernel
theorem dX9_when_60 : decode cX9_when 60 = .ok (.getfield 23, 3) := by decide +kernel
theorem dX9_when_63 : decode cX9_when 63 = .ok (.getfield 108, 3) := by decide +kernel
theorem dX9_when_66 : decode cX9_when 66 = .ok (.iload 5, 2) := by decide +kernel
theorem dX9_when_68 : decode cX9_when 68 = .ok (.invokevirtual 118, 3) := by decide +kernel
theorem dX9_when_71 : decode cX9_when 71 = .ok (.ladd, 1) := by decide +kernel
theorem dX9_when_72 : decode cX9_when 72 = .ok (.lstore_n 3, 1) := by decide +kernel
theorem dX9_when_73 : decode cX9_when 73 = .ok (.lload_n 3, 1) := by decide +kernel
theorem dX9_when_74 : decode cX9_when 74 = .ok (.iload_n 2, 1) := by decide +kernel
theorem dX9_when_75 : decode cX9_when 75 = .ok (.i2l, 1) := by decide +kernel
theorem dX9_when_76 : decode cX9_when 76 = .ok (.ldc2_w 158, 3) := by decide +kernel
theorem dX9_when_79 : decode cX9_when 79 = .ok (.lmul, 1) := by decide +kernel
theorem dX9_when_80 : decode cX9_when 80 = .ok (.lcmp, 1) := by decide +kernel
theorem dX9_when_81 : decode cX9_when 81 = .ok (.ifCond .lt 6, 3) := by decide +kernel
theorem dX9_when_87 : decode cX9_when 87 = .ok (.iinc 5 1, 3) := by decide +kernel
theorem dX9_when_90 : decode cX9_when 90 = .ok (.goto (-44), 3) := by decide +kernel
theorem dX9_when_84 : decode cX9_when 84 = .ok (.iload 5, 2) := by decide +kernel
theorem dX9_when_86 : decode cX9_when 86 = .ok (.ireturn, 1) := by decide +kernel
theorem dX9_wants_0 : decode cX9_wants 0 = .ok (.aload_n 0, 1) := by decide +kernel
theorem dX9_wants_1 : decode cX9_wants 1 = .ok (.getfield 67, 3) := by decide +kernel
theorem dX9_wants_4 : decode cX9_wants 4 = .ok (.iload_n 1, 1) := by decide +kernel
theorem dX9_wants_5 : decode cX9_wants 5 = .ok (.iload_n 2, 1) := by decide +kernel
theorem dX9_wants_6 : decode cX9_wants 6 = .ok (.invokevirtual 160, 3) := by decide +kernel
theorem dX9_wants_9 : decode cX9_wants 9 = .ok (.ifCond .eq 14, 3) := by decide +kernel
theorem dX9_wants_12 : decode cX9_wants 12 = .ok (.aload_n 0, 1) := by decide +kernel
theorem dX9_wants_13 : decode cX9_wants 13 = .ok (.getfield 67, 3) := by decide +kernel
theorem dX9_wants_16 : decode cX9_wants 16 = .ok (.iload_n 3, 1) := by decide +kernel
theorem dX9_wants_17 : decode cX9_wants 17 = .ok (.invokevirtual 103, 3) := by decide +kernel
theorem dX9_wants_20 : decode cX9_wants 20 = .ok (.ifCond .ne 6, 3) := by decide +kernel
theorem dX9_wants_26 : decode cX9_wants 26 = .ok (.aload_n 0, 1) := by decide +kernel
theorem dX9_wants_27 : decode cX9_wants 27 = .ok (.getfield 67, 3) := by decide +kernel
theorem dX9_wants_30 : decode cX9_wants 30 = .ok (.iload_n 1, 1) := by decide +kernel
theorem dX9_wants_31 : decode cX9_wants 31 = .ok (.iload_n 2, 1) := by decide +kernel
theorem dX9_wants_32 : decode cX9_wants 32 = .ok (.iload_n 3, 1) := by decide +kernel
theorem dX9_wants_33 : decode cX9_wants 33 = .ok (.invokevirtual 163, 3) := by decide +kernel
theorem dX9_wants_36 : decode cX9_wants 36 = .ok (.ireturn, 1) := by decide +kernel
theorem dX9_wants_23 : decode cX9_wants 23 = .ok (.bipush (-2), 2) := by decide +kernel
theorem dX9_wants_25 : decode cX9_wants 25 = .ok (.ireturn, 1) := by decide +kernel
theorem dX9_cost_0 : decode cX9_cost 0 = .ok (.aload_n 0, 1) := by decide +kernel
theorem dX9_cost_1 : decode cX9_cost 1 = .ok (.getfield 67, 3) := by decide +kernel
theorem dX9_cost_4 : decode cX9_cost 4 = .ok (.iload_n 1, 1) := by decide +kernel
theorem dX9_cost_5 : decode cX9_cost 5 = .ok (.iload_n 2, 1) := by decide +kernel
theorem dX9_cost_6 : decode cX9_cost 6 = .ok (.invokevirtual 160, 3) := by decide +kernel
theorem dX9_cost_9 : decode cX9_cost 9 = .ok (.ifCond .eq 10, 3) := by decide +kernel
theorem dX9_cost_12 : decode cX9_cost 12 = .ok (.iload_n 3, 1) := by decide +kernel
theorem dX9_cost_13 : decode cX9_cost 13 = .ok (.invokestatic 167, 3) := by decide +kernel
theorem dX9_cost_16 : decode cX9_cost 16 = .ok (.ifCond .ne 7, 3) := by decide +kernel
theorem dX9_cost_23 : decode cX9_cost 23 = .ok (.aload_n 0, 1) := by decide +kernel
theorem dX9_cost_24 : decode cX9_cost 24 = .ok (.getfield 23, 3) := by decide +kernel
theorem dX9_cost_27 : decode cX9_cost 27 = .ok (.aload_n 0, 1) := by decide +kernel
theorem dX9_cost_28 : decode cX9_cost 28 = .ok (.getfield 67, 3) := by decide +kernel
theorem dX9_cost_31 : decode cX9_cost 31 = .ok (.iload_n 1, 1) := by decide +kernel
theorem dX9_cost_32 : decode cX9_cost 32 = .ok (.iload_n 2, 1) := by decide +kernel
theorem dX9_cost_33 : decode cX9_cost 33 = .ok (.invokevirtual 170, 3) := by decide +kernel
theorem dX9_cost_36 : decode cX9_cost 36 = .ok (.aload_n 0, 1) := by decide +kernel
theorem dX9_cost_37 : decode cX9_cost 37 = .ok (.getfield 23, 3) := by decide +kernel
theorem dX9_cost_40 : decode cX9_cost 40 = .ok (.iload_n 3, 1) := by decide +kernel
theorem dX9_cost_41 : decode cX9_cost 41 = .ok (.invokevirtual 173, 3) := by decide +kernel
theorem dX9_cost_44 : decode cX9_cost 44 = .ok (.lreturn, 1) := by decide +kernel
theorem dX9_cost_19 : decode cX9_cost 19 = .ok (.ldc2_w 106, 3) := by decide +kernel
theorem dX9_cost_22 : decode cX9_cost 22 = .ok (.lreturn, 1) := by decide +kernel
theorem dX9_worth_0 : decode cX9_worth 0 = .ok (.aload_n 0, 1) := by decide +kernel
theorem dX9_worth_1 : decode cX9_worth 1 = .ok (.getfield 67, 3) := by decide +kernel
theorem dX9_worth_4 : decode cX9_worth 4 = .ok (.iload_n 1, 1) := by decide +kernel
theorem dX9_worth_5 : decode cX9_worth 5 = .ok (.iload_n 2, 1) := by decide +kernel
theorem dX9_worth_6 : decode cX9_worth 6 = .ok (.invokevirtual 160, 3) := by decide +kernel
theorem dX9_worth_9 : decode cX9_worth 9 = .ok (.ifCond .eq 14, 3) := by decide +kernel
theorem dX9_worth_12 : decode cX9_worth 12 = .ok (.iload_n 3, 1) := by decide +kernel
theorem dX9_worth_13 : decode cX9_worth 13 = .ok (.ifCond .lt 10, 3) := by decide +kernel
theorem dX9_worth_23 : decode cX9_worth 23 = .ok (.ldc2_w 176, 3) := by decide +kernel
theorem dX9_worth_26 : decode cX9_worth 26 = .ok (.lreturn, 1) := by decide +kernel
theorem dX9_worth_16 : decode cX9_worth 16 = .ok (.iload_n 3, 1) := by decide +kernel
theorem dX9_worth_17 : decode cX9_worth 17 = .ok (.sipush 999, 3) := by decide +kernel
theorem dX9_worth_20 : decode cX9_worth 20 = .ok (.if_icmp .lt 7, 3) := by decide +kernel
theorem dX9_worth_27 : decode cX9_worth 27 = .ok (.aload_n 0, 1) := by decide +kernel
theorem dX9_worth_28 : decode cX9_worth 28 = .ok (.getfield 23, 3) := by decide +kernel
theorem dX9_worth_31 : decode cX9_worth 31 = .ok (.aload_n 0, 1) := by decide +kernel
theorem dX9_worth_32 : decode cX9_worth 32 = .ok (.getfield 67, 3) := by decide +kernel
theorem dX9_worth_35 : decode cX9_worth 35 = .ok (.iload_n 1, 1) := by decide +kernel
theorem dX9_worth_36 : decode cX9_worth 36 = .ok (.iload_n 2, 1) := by decide +kernel
theorem dX9_worth_37 : decode cX9_worth 37 = .ok (.invokevirtual 170, 3) := by decide +kernel
theorem dX9_worth_40 : decode cX9_worth 40 = .ok (.aload_n 0, 1) := by decide +kernel
theorem dX9_worth_41 : decode cX9_worth 41 = .ok (.getfield 23, 3) := by decide +kernel
theorem dX9_worth_44 : decode cX9_worth 44 = .ok (.iconst 0, 1) := by decide +kernel
theorem dX9_worth_45 : decode cX9_worth 45 = .ok (.iload_n 3, 1) := by decide +kernel
theorem dX9_worth_46 : decode cX9_worth 46 = .ok (.invokevirtual 178, 3) := by decide +kernel
theorem dX9_worth_49 : decode cX9_worth 49 = .ok (.aload_n 0, 1) := by decide +kernel
theorem dX9_worth_50 : decode cX9_worth 50 = .ok (.getfield 23, 3) := by decide +kernel
theorem dX9_worth_53 : decode cX9_worth 53 = .ok (.iconst 0, 1) := by decide +kernel
theorem dX9_worth_54 : decode cX9_worth 54 = .ok (.iload_n 3, 1) := by decide +kernel
theorem dX9_worth_55 : decode cX9_worth 55 = .ok (.iconst 1, 1) := by decide +kernel
theorem dX9_worth_56 : decode cX9_worth 56 = .ok (.iadd, 1) := by decide +kernel
theorem dX9_worth_57 : decode cX9_worth 57 = .ok (.invokevirtual 178, 3) := by decide +kernel
theorem dX9_worth_60 : decode cX9_worth 60 = .ok (.lsub, 1) := by decide +kernel
theorem dX9_worth_61 : decode cX9_worth 61 = .ok (.ldc2_w 158, 3) := by decide +kernel
theorem dX9_worth_64 : decode cX9_worth 64 = .ok (.ldiv, 1) := by decide +kernel
theorem dX9_worth_65 : decode cX9_worth 65 = .ok (.lreturn, 1) := by decide +kernel
theorem dX9_best_0 : decode cX9_best 0 = .ok (.aload_n 0, 1) := by decide +kernel
theorem dX9_best_1 : decode cX9_best 1 = .ok (.getfield 67, 3) := by decide +kernel
theorem dX9_best_4 : decode cX9_best 4 = .ok (.iload_n 1, 1) := by decide +kernel
theorem dX9_best_5 : decode cX9_best 5 = .ok (.iload_n 2, 1) := by decide +kernel
theorem dX9_best_6 : decode cX9_best 6 = .ok (.invokevirtual 160, 3) := by decide +kernel
theorem dX9_best_9 : decode cX9_best 9 = .ok (.ifCond .ne 6, 3) := by decide +kernel
theorem dX9_best_15 : decode cX9_best 15 = .ok (.aload_n 0, 1) := by decide +kernel
theorem dX9_best_16 : decode cX9_best 16 = .ok (.getfield 23, 3) := by decide +kernel
theorem dX9_best_19 : decode cX9_best 19 = .ok (.aload_n 0, 1) := by decide +kernel
theorem dX9_best_20 : decode cX9_best 20 = .ok (.getfield 67, 3) := by decide +kernel
theorem dX9_best_23 : decode cX9_best 23 = .ok (.iload_n 1, 1) := by decide +kernel
theorem dX9_best_24 : decode cX9_best 24 = .ok (.iload_n 2, 1) := by decide +kernel
theorem dX9_best_25 : decode cX9_best 25 = .ok (.invokevirtual 170, 3) := by decide +kernel
theorem dX9_best_28 : decode cX9_best 28 = .ok (.aload_n 0, 1) := by decide +kernel
theorem dX9_best_29 : decode cX9_best 29 = .ok (.getfield 23, 3) := by decide +kernel
theorem dX9_best_32 : decode cX9_best 32 = .ok (.iconst 0, 1) := by decide +kernel
theorem dX9_best_33 : decode cX9_best 33 = .ok (.invokevirtual 181, 3) := by decide +kernel
theorem dX9_best_36 : decode cX9_best 36 = .ok (.ireturn, 1) := by decide +kernel
theorem dX9_best_12 : decode cX9_best 12 = .ok (.bipush (-2), 2) := by decide +kernel
theorem dX9_best_14 : decode cX9_best 14 = .ok (.ireturn, 1) := by decide +kernel
theorem dX9_sure_0 : decode cX9_sure 0 = .ok (.aload_n 0, 1) := by decide +kernel
theorem dX9_sure_1 : decode cX9_sure 1 = .ok (.getfield 67, 3) := by decide +kernel
theorem dX9_sure_4 : decode cX9_sure 4 = .ok (.iload_n 1, 1) := by decide +kernel
theorem dX9_sure_5 : decode cX9_sure 5 = .ok (.iload_n 2, 1) := by decide +kernel
theorem dX9_sure_6 : decode cX9_sure 6 = .ok (.invokevirtual 160, 3) := by decide +kernel
theorem dX9_sure_9 : decode cX9_sure 9 = .ok (.ifCond .eq 10, 3) := by decide +kernel
theorem dX9_sure_12 : decode cX9_sure 12 = .ok (.iload_n 3, 1) := by decide +kernel
theorem dX9_sure_13 : decode cX9_sure 13 = .ok (.invokestatic 167, 3) := by decide +kernel
theorem dX9_sure_16 : decode cX9_sure 16 = .ok (.ifCond .ne 7, 3) := by decide +kernel
theorem dX9_sure_23 : decode cX9_sure 23 = .ok (.aload_n 0, 1) := by decide +kernel
theorem dX9_sure_24 : decode cX9_sure 24 = .ok (.getfield 23, 3) := by decide +kernel
theorem dX9_sure_27 : decode cX9_sure 27 = .ok (.aload_n 0, 1) := by decide +kernel
theorem dX9_sure_28 : decode cX9_sure 28 = .ok (.getfield 67, 3) := by decide +kernel
theorem dX9_sure_31 : decode cX9_sure 31 = .ok (.iload_n 1, 1) := by decide +kernel
theorem dX9_sure_32 : decode cX9_sure 32 = .ok (.iload_n 2, 1) := by decide +kernel
theorem dX9_sure_33 : decode cX9_sure 33 = .ok (.invokevirtual 184, 3) := by decide +kernel
theorem dX9_sure_36 : decode cX9_sure 36 = .ok (.aload_n 0, 1) := by decide +kernel
theorem dX9_sure_37 : decode cX9_sure 37 = .ok (.getfield 23, 3) := by decide +kernel
theorem dX9_sure_40 : decode cX9_sure 40 = .ok (.iload_n 3, 1) := by decide +kernel
theorem dX9_sure_41 : decode cX9_sure 41 = .ok (.invokevirtual 187, 3) := by decide +kernel
theorem dX9_sure_44 : decode cX9_sure 44 = .ok (.lreturn, 1) := by decide +kernel
theorem dX9_sure_19 : decode cX9_sure 19 = .ok (.ldc2_w 106, 3) := by decide +kernel
theorem dX9_sure_22 : decode cX9_sure 22 = .ok (.lreturn, 1) := by decide +kernel
theorem dX9_need_0 : decode cX9_need 0 = .ok (.aload_n 0, 1) := by decide +kernel
theorem dX9_need_1 : decode cX9_need 1 = .ok (.getfield 67, 3) := by decide +kernel
theorem dX9_need_4 : decode cX9_need 4 = .ok (.iload_n 1, 1) := by decide +kernel
theorem dX9_need_5 : decode cX9_need 5 = .ok (.iload_n 2, 1) := by decide +kernel
theorem dX9_need_6 : decode cX9_need 6 = .ok (.invokevirtual 160, 3) := by decide +kernel
theorem dX9_need_9 : decode cX9_need 9 = .ok (.ifCond .eq 14, 3) := by decide +kernel
theorem dX9_need_12 : decode cX9_need 12 = .ok (.iload_n 3, 1) := by decide +kernel
theorem dX9_need_13 : decode cX9_need 13 = .ok (.ifCond .lt 10, 3) := by decide +kernel
theorem dX9_need_23 : decode cX9_need 23 = .ok (.bipush (-2), 2) := by decide +kernel
theorem dX9_need_25 : decode cX9_need 25 = .ok (.ireturn, 1) := by decide +kernel
theorem dX9_need_16 : decode cX9_need 16 = .ok (.iload_n 3, 1) := by decide +kernel
theorem dX9_need_17 : decode cX9_need 17 = .ok (.sipush 1000, 3) := by decide +kernel
theorem dX9_need_20 : decode cX9_need 20 = .ok (.if_icmp .le 6, 3) := by decide +kernel
theorem dX9_need_26 : decode cX9_need 26 = .ok (.aload_n 0, 1) := by decide +kernel
theorem dX9_need_27 : decode cX9_need 27 = .ok (.getfield 23, 3) := by decide +kernel
theorem dX9_need_30 : decode cX9_need 30 = .ok (.aload_n 0, 1) := by decide +kernel
theorem dX9_need_31 : decode cX9_need 31 = .ok (.getfield 67, 3) := by decide +kernel
theorem dX9_need_34 : decode cX9_need 34 = .ok (.iload_n 1, 1) := by decide +kernel
theorem dX9_need_35 : decode cX9_need 35 = .ok (.iload_n 2, 1) := by decide +kernel
theorem dX9_need_36 : decode cX9_need 36 = .ok (.invokevirtual 184, 3) := by decide +kernel
theorem dX9_need_39 : decode cX9_need 39 = .ok (.ldc2_w 190, 3) := by decide +kernel
theorem dX9_need_42 : decode cX9_need 42 = .ok (.lstore 4, 2) := by decide +kernel
theorem dX9_need_44 : decode cX9_need 44 = .ok (.iconst 0, 1) := by decide +kernel
theorem dX9_need_45 : decode cX9_need 45 = .ok (.istore 6, 2) := by decide +kernel
theorem dX9_need_47 : decode cX9_need 47 = .ok (.iload 6, 2) := by decide +kernel
theorem dX9_need_49 : decode cX9_need 49 = .ok (.sipush 999, 3) := by decide +kernel
theorem dX9_need_52 : decode cX9_need 52 = .ok (.if_icmp .gt 38, 3) := by decide +kernel
theorem dX9_need_90 : decode cX9_need 90 = .ok (.iconst (-1), 1) := by decide +kernel
theorem dX9_need_91 : decode cX9_need 91 = .ok (.ireturn, 1) := by decide +kernel
theorem dX9_need_55 : decode cX9_need 55 = .ok (.lload 4, 2) := by decide +kernel
theorem dX9_need_57 : decode cX9_need 57 = .ok (.aload_n 0, 1) := by decide +kernel
theorem dX9_need_58 : decode cX9_need 58 = .ok (.getfield 23, 3) := by decide +kernel
theorem dX9_need_61 : decode cX9_need 61 = .ok (.iload 6, 2) := by decide +kernel
theorem dX9_need_63 : decode cX9_need 63 = .ok (.invokevirtual 192, 3) := by decide +kernel
theorem dX9_need_66 : decode cX9_need 66 = .ok (.lsub, 1) := by decide +kernel
theorem dX9_need_67 : decode cX9_need 67 = .ok (.lstore 4, 2) := by decide +kernel
theorem dX9_need_69 : decode cX9_need 69 = .ok (.lload 4, 2) := by decide +kernel
theorem dX9_need_71 : decode cX9_need 71 = .ok (.iload_n 3, 1) := by decide +kernel
theorem dX9_need_72 : decode cX9_need 72 = .ok (.i2l, 1) := by decide +kernel
theorem dX9_need_73 : decode cX9_need 73 = .ok (.ldc2_w 158, 3) := by decide +kernel
theorem dX9_need_76 : decode cX9_need 76 = .ok (.lmul, 1) := by decide +kernel
theorem dX9_need_77 : decode cX9_need 77 = .ok (.lcmp, 1) := by decide +kernel
theorem dX9_need_78 : decode cX9_need 78 = .ok (.ifCond .gt 6, 3) := by decide +kernel
theorem dX9_need_84 : decode cX9_need 84 = .ok (.iinc 6 1, 3) := by decide +kernel
theorem dX9_need_87 : decode cX9_need 87 = .ok (.goto (-40), 3) := by decide +kernel
theorem dX9_need_81 : decode cX9_need 81 = .ok (.iload 6, 2) := by decide +kernel
theorem dX9_need_83 : decode cX9_need 83 = .ok (.ireturn, 1) := by decide +kernel
theorem dX9_packed_0 : decode cX9_packed 0 = .ok (.aload_n 0, 1) := by decide +kernel
theorem dX9_packed_1 : decode cX9_packed 1 = .ok (.getfield 67, 3) := by decide +kernel
theorem dX9_packed_4 : decode cX9_packed 4 = .ok (.iload_n 1, 1) := by decide +kernel
theorem dX9_packed_5 : decode cX9_packed 5 = .ok (.invokevirtual 99, 3) := by decide +kernel
theorem dX9_packed_8 : decode cX9_packed 8 = .ok (.ifCond .ne 7, 3) := by decide +kernel
theorem dX9_packed_15 : decode cX9_packed 15 = .ok (.aload_n 0, 1) := by decide +kernel
theorem dX9_packed_16 : decode cX9_packed 16 = .ok (.getfield 23, 3) := by decide +kernel
theorem dX9_packed_19 : decode cX9_packed 19 = .ok (.aload_n 0, 1) := by decide +kernel
theorem dX9_packed_20 : decode cX9_packed 20 = .ok (.getfield 67, 3) := by decide +kernel
theorem dX9_packed_23 : decode cX9_packed 23 = .ok (.iload_n 1, 1) := by decide +kernel
theorem dX9_packed_24 : decode cX9_packed 24 = .ok (.invokevirtual 195, 3) := by decide +kernel
theorem dX9_packed_27 : decode cX9_packed 27 = .ok (.ldc2_w 158, 3) := by decide +kernel
theorem dX9_packed_30 : decode cX9_packed 30 = .ok (.ldiv, 1) := by decide +kernel
theorem dX9_packed_31 : decode cX9_packed 31 = .ok (.lreturn, 1) := by decide +kernel
theorem dX9_packed_11 : decode cX9_packed 11 = .ok (.ldc2_w 106, 3) := by decide +kernel
theorem dX9_packed_14 : decode cX9_packed 14 = .ok (.lreturn, 1) := by decide +kernel
theorem dX9_pack_0 : decode cX9_pack 0 = .ok (.aload_n 0, 1) := by decide +kernel
theorem dX9_pack_1 : decode cX9_pack 1 = .ok (.getfield 67, 3) := by decide +kernel
theorem dX9_pack_4 : decode cX9_pack 4 = .ok (.iload_n 1, 1) := by decide +kernel
theorem dX9_pack_5 : decode cX9_pack 5 = .ok (.iload_n 2, 1) := by decide +kernel
theorem dX9_pack_6 : decode cX9_pack 6 = .ok (.invokevirtual 160, 3) := by decide +kernel
theorem dX9_pack_9 : decode cX9_pack 9 = .ok (.ifCond .ne 6, 3) := by decide +kernel
theorem dX9_pack_15 : decode cX9_pack 15 = .ok (.aload_n 0, 1) := by decide +kernel
theorem dX9_pack_16 : decode cX9_pack 16 = .ok (.getfield 23, 3) := by decide +kernel
theorem dX9_pack_19 : decode cX9_pack 19 = .ok (.aload_n 0, 1) := by decide +kernel
theorem dX9_pack_20 : decode cX9_pack 20 = .ok (.getfield 67, 3) := by decide +kernel
theorem dX9_pack_23 : decode cX9_pack 23 = .ok (.iload_n 1, 1) := by decide +kernel
theorem dX9_pack_24 : decode cX9_pack 24 = .ok (.invokevirtual 195, 3) := by decide +kernel
theorem dX9_pack_27 : decode cX9_pack 27 = .ok (.pop2, 1) := by decide +kernel
theorem dX9_pack_28 : decode cX9_pack 28 = .ok (.aload_n 0, 1) := by decide +kernel
theorem dX9_pack_29 : decode cX9_pack 29 = .ok (.getfield 23, 3) := by decide +kernel
theorem dX9_pack_32 : decode cX9_pack 32 = .ok (.iload_n 2, 1) := by decide +kernel
theorem dX9_pack_33 : decode cX9_pack 33 = .ok (.invokevirtual 199, 3) := by decide +kernel
theorem dX9_pack_36 : decode cX9_pack 36 = .ok (.ireturn, 1) := by decide +kernel
theorem dX9_pack_12 : decode cX9_pack 12 = .ok (.bipush (-2), 2) := by decide +kernel
theorem dX9_pack_14 : decode cX9_pack 14 = .ok (.ireturn, 1) := by decide +kernel
theorem dX9_gap_0 : decode cX9_gap 0 = .ok (.aload_n 0, 1) := by decide +kernel
theorem dX9_gap_1 : decode cX9_gap 1 = .ok (.getfield 67, 3) := by decide +kernel
theorem dX9_gap_4 : decode cX9_gap 4 = .ok (.iload_n 1, 1) := by decide +kernel
theorem dX9_gap_5 : decode cX9_gap 5 = .ok (.invokevirtual 99, 3) := by decide +kernel
theorem dX9_gap_8 : decode cX9_gap 8 = .ok (.ifCond .ne 7, 3) := by decide +kernel
theorem dX9_gap_15 : decode cX9_gap 15 = .ok (.aload_n 0, 1) := by decide +kernel
theorem dX9_gap_16 : decode cX9_gap 16 = .ok (.getfield 23, 3) := by decide +kernel
theorem dX9_gap_19 : decode cX9_gap 19 = .ok (.aload_n 0, 1) := by decide +kernel
theorem dX9_gap_20 : decode cX9_gap 20 = .ok (.getfield 67, 3) := by decide +kernel
theorem dX9_gap_23 : decode cX9_gap 23 = .ok (.iload_n 1, 1) := by decide +kernel
theorem dX9_gap_24 : decode cX9_gap 24 = .ok (.invokevirtual 195, 3) := by decide +kernel
theorem dX9_gap_27 : decode cX9_gap 27 = .ok (.lstore_n 2, 1) := by decide +kernel
theorem dX9_gap_28 : decode cX9_gap 28 = .ok (.lconst 0, 1) := by decide +kernel
theorem dX9_gap_29 : decode cX9_gap 29 = .ok (.lstore 4, 2) := by decide +kernel
theorem dX9_gap_31 : decode cX9_gap 31 = .ok (.iconst 0, 1) := by decide +kernel
theorem dX9_gap_32 : decode cX9_gap 32 = .ok (.istore 6, 2) := by decide +kernel
theorem dX9_gap_34 : decode cX9_gap 34 = .ok (.iload 6, 2) := by decide +kernel
theorem dX9_gap_36 : decode cX9_gap 36 = .ok (.aload_n 0, 1) := by decide +kernel
theorem dX9_gap_37 : decode cX9_gap 37 = .ok (.getfield 67, 3) := by decide +kernel
theorem dX9_gap_40 : decode cX9_gap 40 = .ok (.getfield 202, 3) := by decide +kernel
theorem dX9_gap_43 : decode cX9_gap 43 = .ok (.if_icmp .ge 23, 3) := by decide +kernel
theorem dX9_gap_66 : decode cX9_gap 66 = .ok (.lload_n 2, 1) := by decide +kernel
theorem dX9_gap_67 : decode cX9_gap 67 = .ok (.lload 4, 2) := by decide +kernel
theorem dX9_gap_69 : decode cX9_gap 69 = .ok (.lsub, 1) := by decide +kernel
theorem dX9_gap_70 : decode cX9_gap 70 = .ok (.ldc2_w 158, 3) := by decide +kernel
theorem dX9_gap_73 : decode cX9_gap 73 = .ok (.ldiv, 1) := by decide +kernel
theorem dX9_gap_74 : decode cX9_gap 74 = .ok (.lreturn, 1) := by decide +kernel
theorem dX9_gap_46 : decode cX9_gap 46 = .ok (.lload 4, 2) := by decide +kernel
theorem dX9_gap_48 : decode cX9_gap 48 = .ok (.aload_n 0, 1) := by decide +kernel
theorem dX9_gap_49 : decode cX9_gap 49 = .ok (.getfield 23, 3) := by decide +kernel
theorem dX9_gap_52 : decode cX9_gap 52 = .ok (.iload 6, 2) := by decide +kernel
theorem dX9_gap_54 : decode cX9_gap 54 = .ok (.invokevirtual 205, 3) := by decide +kernel
theorem dX9_gap_57 : decode cX9_gap 57 = .ok (.ladd, 1) := by decide +kernel
theorem dX9_gap_58 : decode cX9_gap 58 = .ok (.lstore 4, 2) := by decide +kernel
theorem dX9_gap_60 : decode cX9_gap 60 = .ok (.iinc 6 1, 3) := by decide +kernel
theorem dX9_gap_63 : decode cX9_gap 63 = .ok (.goto (-29), 3) := by decide +kernel
theorem dX9_gap_11 : decode cX9_gap 11 = .ok (.ldc2_w 106, 3) := by decide +kernel
theorem dX9_gap_14 : decode cX9_gap 14 = .ok (.lreturn, 1) := by decide +kernel
theorem dX9_late_0 : decode cX9_late 0 = .ok (.aload_n 0, 1) := by decide +kernel
theorem dX9_late_1 : decode cX9_late 1 = .ok (.getfield 67, 3) := by decide +kernel
theorem dX9_late_4 : decode cX9_late 4 = .ok (.iload_n 1, 1) := by decide +kernel
theorem dX9_late_5 : decode cX9_late 5 = .ok (.iload_n 2, 1) := by decide +kernel
theorem dX9_late_6 : decode cX9_late 6 = .ok (.invokevirtual 160, 3) := by decide +kernel
theorem dX9_late_9 : decode cX9_late 9 = .ok (.ifCond .ne 7, 3) := by decide +kernel
theorem dX9_late_16 : decode cX9_late 16 = .ok (.aload_n 0, 1) := by decide +kernel
theorem dX9_late_17 : decode cX9_late 17 = .ok (.getfield 30, 3) := by decide +kernel
theorem dX9_late_20 : decode cX9_late 20 = .ok (.aload_n 0, 1) := by decide +kernel
theorem dX9_late_21 : decode cX9_late 21 = .ok (.getfield 67, 3) := by decide +kernel
theorem dX9_late_24 : decode cX9_late 24 = .ok (.iload_n 1, 1) := by decide +kernel
theorem dX9_late_25 : decode cX9_late 25 = .ok (.iload_n 2, 1) := by decide +kernel
theorem dX9_late_26 : decode cX9_late 26 = .ok (.invokevirtual 208, 3) := by decide +kernel
theorem dX9_late_29 : decode cX9_late 29 = .ok (.lreturn, 1) := by decide +kernel
theorem dX9_late_12 : decode cX9_late 12 = .ok (.ldc2_w 106, 3) := by decide +kernel
theorem dX9_late_15 : decode cX9_late 15 = .ok (.lreturn, 1) := by decide +kernel
theorem dX9_today_0 : decode cX9_today 0 = .ok (.aload_n 0, 1) := by decide +kernel
theorem dX9_today_1 : decode cX9_today 1 = .ok (.getfield 67, 3) := by decide +kernel
theorem dX9_today_4 : decode cX9_today 4 = .ok (.iload_n 1, 1) := by decide +kernel
theorem dX9_today_5 : decode cX9_today 5 = .ok (.iload_n 2, 1) := by decide +kernel
theorem dX9_today_6 : decode cX9_today 6 = .ok (.invokevirtual 160, 3) := by decide +kernel
theorem dX9_today_9 : decode cX9_today 9 = .ok (.ifCond .eq 27, 3) := by decide +kernel
theorem dX9_today_12 : decode cX9_today 12 = .ok (.aload_n 0, 1) := by decide +kernel
theorem dX9_today_13 : decode cX9_today 13 = .ok (.getfield 67, 3) := by decide +kernel
theorem dX9_today_16 : decode cX9_today 16 = .ok (.iload_n 3, 1) := by decide +kernel
theorem dX9_today_17 : decode cX9_today 17 = .ok (.invokevirtual 122, 3) := by decide +kernel
theorem dX9_today_20 : decode cX9_today 20 = .ok (.ifCond .eq 16, 3) := by decide +kernel
theorem dX9_today_23 : decode cX9_today 23 = .ok (.iload 5, 2) := by decide +kernel
theorem dX9_today_25 : decode cX9_today 25 = .ok (.ifCond .lt 11, 3) := by decide +kernel
theorem dX9_today_36 : decode cX9_today 36 = .ok (.bipush (-2), 2) := by decide +kernel
theorem dX9_today_38 : decode cX9_today 38 = .ok (.ireturn, 1) := by decide +kernel
theorem dX9_today_28 : decode cX9_today 28 = .ok (.iload 5, 2) := by decide +kernel
theorem dX9_today_30 : decode cX9_today 30 = .ok (.sipush 600, 3) := by decide +kernel
theorem dX9_today_33 : decode cX9_today 33 = .ok (.if_icmp .le 6, 3) := by decide +kernel
theorem dX9_today_39 : decode cX9_today 39 = .ok (.aload_n 0, 1) := by decide +kernel
theorem dX9_today_40 : decode cX9_today 40 = .ok (.getfield 30, 3) := by decide +kernel
theorem dX9_today_43 : decode cX9_today 43 = .ok (.aload_n 0, 1) := by decide +kernel
theorem dX9_today_44 : decode cX9_today 44 = .ok (.getfield 67, 3) := by decide +kernel
theorem dX9_today_47 : decode cX9_today 47 = .ok (.iload_n 1, 1) := by decide +kernel
theorem dX9_today_48 : decode cX9_today 48 = .ok (.iload_n 2, 1) := by decide +kernel
theorem dX9_today_49 : decode cX9_today 49 = .ok (.iload 5, 2) := by decide +kernel
theorem dX9_today_51 : decode cX9_today 51 = .ok (.invokevirtual 212, 3) := by decide +kernel
theorem dX9_today_54 : decode cX9_today 54 = .ok (.aload_n 0, 1) := by decide +kernel
theorem dX9_today_55 : decode cX9_today 55 = .ok (.getfield 30, 3) := by decide +kernel
theorem dX9_today_58 : decode cX9_today 58 = .ok (.iload_n 3, 1) := by decide +kernel
theorem dX9_today_59 : decode cX9_today 59 = .ok (.iload 4, 2) := by decide +kernel
theorem dX9_today_61 : decode cX9_today 61 = .ok (.invokevirtual 216, 3) := by decide +kernel
theorem dX9_today_64 : decode cX9_today 64 = .ok (.ireturn, 1) := by decide +kernel
theorem dX9_last_0 : decode cX9_last 0 = .ok (.aload_n 0, 1) := by decide +kernel
theorem dX9_last_1 : decode cX9_last 1 = .ok (.getfield 67, 3) := by decide +kernel
theorem dX9_last_4 : decode cX9_last 4 = .ok (.iload_n 1, 1) := by decide +kernel
theorem dX9_last_5 : decode cX9_last 5 = .ok (.iload_n 2, 1) := by decide +kernel
theorem dX9_last_6 : decode cX9_last 6 = .ok (.invokevirtual 160, 3) := by decide +kernel
theorem dX9_last_9 : decode cX9_last 9 = .ok (.ifCond .ne 6, 3) := by decide +kernel
theorem dX9_last_15 : decode cX9_last 15 = .ok (.aload_n 0, 1) := by decide +kernel
theorem dX9_last_16 : decode cX9_last 16 = .ok (.getfield 30, 3) := by decide +kernel
theorem dX9_last_19 : decode cX9_last 19 = .ok (.aload_n 0, 1) := by decide +kernel
theorem dX9_last_20 : decode cX9_last 20 = .ok (.getfield 67, 3) := by decide +kernel
theorem dX9_last_23 : decode cX9_last 23 = .ok (.iload_n 1, 1) := by decide +kernel
theorem dX9_last_24 : decode cX9_last 24 = .ok (.iload_n 2, 1) := by decide +kernel
theorem dX9_last_25 : decode cX9_last 25 = .ok (.invokevirtual 220, 3) := by decide +kernel
theorem dX9_last_28 : decode cX9_last 28 = .ok (.ireturn, 1) := by decide +kernel
theorem dX9_last_12 : decode cX9_last 12 = .ok (.bipush (-2), 2) := by decide +kernel
theorem dX9_last_14 : decode cX9_last 14 = .ok (.ireturn, 1) := by decide +kernel
theorem dX9_signs_0 : decode cX9_signs 0 = .ok (.aload_n 0, 1) := by decide +kernel
theorem dX9_signs_1 : decode cX9_signs 1 = .ok (.getfield 67, 3) := by decide +kernel
theorem dX9_signs_4 : decode cX9_signs 4 = .ok (.iload_n 1, 1) := by decide +kernel
theorem dX9_signs_5 : decode cX9_signs 5 = .ok (.iload_n 2, 1) := by decide +kernel
theorem dX9_signs_6 : decode cX9_signs 6 = .ok (.invokevirtual 160, 3) := by decide +kernel
theorem dX9_signs_9 : decode cX9_signs 9 = .ok (.ifCond .ne 7, 3) := by decide +kernel
theorem dX9_signs_16 : decode cX9_signs 16 = .ok (.aload_n 0, 1) := by decide +kernel
theorem dX9_signs_17 : decode cX9_signs 17 = .ok (.getfield 23, 3) := by decide +kernel
theorem dX9_signs_20 : decode cX9_signs 20 = .ok (.aload_n 0, 1) := by decide +kernel
theorem dX9_signs_21 : decode cX9_signs 21 = .ok (.getfield 67, 3) := by decide +kernel
theorem dX9_signs_24 : decode cX9_signs 24 = .ok (.iload_n 1, 1) := by decide +kernel
theorem dX9_signs_25 : decode cX9_signs 25 = .ok (.iload_n 2, 1) := by decide +kernel
theorem dX9_signs_26 : decode cX9_signs 26 = .ok (.invokevirtual 170, 3) := by decide +kernel
theorem dX9_signs_29 : decode cX9_signs 29 = .ok (.ldc2_w 226, 3) := by decide +kernel
theorem dX9_signs_32 : decode cX9_signs 32 = .ok (.lstore_n 3, 1) := by decide +kernel
theorem dX9_signs_33 : decode cX9_signs 33 = .ok (.iconst 0, 1) := by decide +kernel
theorem dX9_signs_34 : decode cX9_signs 34 = .ok (.istore 5, 2) := by decide +kernel
theorem dX9_signs_36 : decode cX9_signs 36 = .ok (.iload 5, 2) := by decide +kernel
theorem dX9_signs_38 : decode cX9_signs 38 = .ok (.sipush 999, 3) := by decide +kernel
theorem dX9_signs_41 : decode cX9_signs 41 = .ok (.if_icmp .gt 51, 3) := by decide +kernel
theorem dX9_signs_92 : decode cX9_signs 92 = .ok (.lload_n 3, 1) := by decide +kernel
theorem dX9_signs_93 : decode cX9_signs 93 = .ok (.aload_n 0, 1) := by decide +kernel
theorem dX9_signs_94 : decode cX9_signs 94 = .ok (.getfield 30, 3) := by decide +kernel
theorem dX9_signs_97 : decode cX9_signs 97 = .ok (.aload_n 0, 1) := by decide +kernel
theorem dX9_signs_98 : decode cX9_signs 98 = .ok (.getfield 67, 3) := by decide +kernel
theorem dX9_signs_101 : decode cX9_signs 101 = .ok (.iload_n 1, 1) := by decide +kernel
theorem dX9_signs_102 : decode cX9_signs 102 = .ok (.iload_n 2, 1) := by decide +kernel
theorem dX9_signs_103 : decode cX9_signs 103 = .ok (.invokevirtual 208, 3) := by decide +kernel
theorem dX9_signs_106 : decode cX9_signs 106 = .ok (.lsub, 1) := by decide +kernel
theorem dX9_signs_107 : decode cX9_signs 107 = .ok (.lreturn, 1) := by decide +kernel
theorem dX9_signs_44 : decode cX9_signs 44 = .ok (.ldc2_w 228, 3) := by decide +kernel
theorem dX9_signs_47 : decode cX9_signs 47 = .ok (.aload_n 0, 1) := by decide +kernel
theorem dX9_signs_48 : decode cX9_signs 48 = .ok (.getfield 67, 3) := by decide +kernel
theorem dX9_signs_51 : decode cX9_signs 51 = .ok (.getfield 230, 3) := by decide +kernel
theorem dX9_signs_54 : decode cX9_signs 54 = .ok (.i2l, 1) := by decide +kernel
theorem dX9_signs_55 : decode cX9_signs 55 = .ok (.lmul, 1) := by decide +kernel
theorem dX9_signs_56 : decode cX9_signs 56 = .ok (.aload_n 0, 1) := by decide +kernel
theorem dX9_signs_57 : decode cX9_signs 57 = .ok (.getfield 67, 3) := by decide +kernel
theorem dX9_signs_60 : decode cX9_signs 60 = .ok (.iload 5, 2) := by decide +kernel
theorem dX9_signs_62 : decode cX9_signs 62 = .ok (.invokevirtual 233, 3) := by decide +kernel
theorem dX9_signs_65 : decode cX9_signs 65 = .ok (.i2l, 1) := by decide +kernel
theorem dX9_signs_66 : decode cX9_signs 66 = .ok (.lmul, 1) := by decide +kernel
theorem dX9_signs_67 : decode cX9_signs 67 = .ok (.lstore 6, 2) := by decide +kernel
theorem dX9_signs_69 : decode cX9_signs 69 = .ok (.lload_n 3, 1) := by decide +kernel
theorem dX9_signs_70 : decode cX9_signs 70 = .ok (.aload_n 0, 1) := by decide +kernel
theorem dX9_signs_71 : decode cX9_signs 71 = .ok (.getfield 23, 3) := by decide +kernel
theorem dX9_signs_74 : decode cX9_signs 74 = .ok (.iload 5, 2) := by decide +kernel
theorem dX9_signs_76 : decode cX9_signs 76 = .ok (.invokevirtual 173, 3) := by decide +kernel
theorem dX9_signs_79 : decode cX9_signs 79 = .ok (.lload 6, 2) := by decide +kernel
theorem dX9_signs_81 : decode cX9_signs 81 = .ok (.ladd, 1) := by decide +kernel
theorem dX9_signs_82 : decode cX9_signs 82 = .ok (.invokestatic 236, 3) := by decide +kernel
theorem dX9_signs_85 : decode cX9_signs 85 = .ok (.lstore_n 3, 1) := by decide +kernel
theorem dX9_signs_86 : decode cX9_signs 86 = .ok (.iinc 5 1, 3) := by decide +kernel
theorem dX9_signs_89 : decode cX9_signs 89 = .ok (.goto (-53), 3) := by decide +kernel
theorem dX9_signs_12 : decode cX9_signs 12 = .ok (.ldc2_w 176, 3) := by decide +kernel
theorem dX9_signs_15 : decode cX9_signs 15 = .ok (.lreturn, 1) := by decide +kernel
theorem sV_X9_78 : SiteV RX9 78 yX9_tapeFour cX9_tapeFour 3 none 1 := ⟨ml_X9_78, im_X9_tapeFour, se_X9_tapeFour, ini_X9, co_X9_tapeFour, by decide +kernel⟩
theorem sV_X9_99 : SiteV RX9 99 yX2_hasValley cX2_hasValley 2 (some .boolean) 1 := ⟨ml_X9_99, im_X2_hasValley, se_X2_hasValley, ini_X2, co_X2_hasValley, by decide +kernel⟩
theorem sV_X9_103 : SiteV RX9 103 yX2_hasDayOrNever cX2_hasDayOrNever 2 (some .boolean) 1 := ⟨ml_X9_103, im_X2_hasDayOrNever, se_X2_hasDayOrNever, ini_X2, co_X2_hasDayOrNever, by decide +kernel⟩
theorem sV_X9_112 : SiteV RX9 112 yX5_followOne cX5_followOne 10 none 2 := ⟨ml_X9_112, im_X5_followOne, se_X5_followOne, ini_X5, co_X5_followOne, by decide +kernel⟩
theorem sV_X9_118 : SiteV RX9 118 yX5_partsOn cX5_partsOn 2 (some .long) 1 := ⟨ml_X9_118, im_X5_partsOn, se_X5_partsOn, ini_X5, co_X5_partsOn, by decide +kernel⟩
theorem sV_X9_122 : SiteV RX9 122 yX2_hasDay cX2_hasDay 2 (some .boolean) 1 := ⟨ml_X9_122, im_X2_hasDay, se_X2_hasDay, ini_X2, co_X2_hasDay, by decide +kernel⟩
theorem sV_X9_125 : SiteV RX9 125 yX2_hasTwo cX2_hasTwo 3 (some .boolean) 2 := ⟨ml_X9_125, im_X2_hasTwo, se_X2_hasTwo, ini_X2, co_X2_hasTwo, by decide +kernel⟩
theorem sV_X9_129 : SiteV RX9 129 yX5_followTwo cX5_followTwo 8 none 3 := ⟨ml_X9_129, im_X5_followTwo, se_X5_followTwo, ini_X5, co_X5_followTwo, by decide +kernel⟩
theorem sV_X9_133 : SiteV RX9 133 yX5_partsOnTwo cX5_partsOnTwo 4 (some .long) 2 := ⟨ml_X9_133, im_X5_partsOnTwo, se_X5_partsOnTwo, ini_X5, co_X5_partsOnTwo, by decide +kernel⟩
theorem sV_X9_140 : SiteV RX9 140 yX5_followAll cX5_followAll 7 none 2 := ⟨ml_X9_140, im_X5_followAll, se_X5_followAll, ini_X5, co_X5_followAll, by decide +kernel⟩
theorem sS_X9_143 : SiteS RX9 143 yJ6_bitCount_0f7a4 cJ6_bitCount_0f7a4 1 (some .int) 1 := ⟨ml_X9_143, st_J6_bitCount_0f7a4, ini_J6, co_J6_bitCount_0f7a4, by decide +kernel⟩
theorem sV_X9_149 : SiteV RX9 149 yX5_partsOfWay cX5_partsOfWay 2 (some .long) 1 := ⟨ml_X9_149, im_X5_partsOfWay, se_X5_partsOfWay, ini_X5, co_X5_partsOfWay, by decide +kernel⟩
theorem sV_X9_152 : SiteV RX9 152 yX2_hasBits cX2_hasBits 2 (some .boolean) 1 := ⟨ml_X9_152, im_X2_hasBits, se_X2_hasBits, ini_X2, co_X2_hasBits, by decide +kernel⟩
theorem sV_X9_160 : SiteV RX9 160 yX2_hasStore cX2_hasStore 3 (some .boolean) 2 := ⟨ml_X9_160, im_X2_hasStore, se_X2_hasStore, ini_X2, co_X2_hasStore, by decide +kernel⟩
theorem sV_X9_163 : SiteV RX9 163 yX2_wanted cX2_wanted 4 (some .int) 3 := ⟨ml_X9_163, im_X2_wanted, se_X2_wanted, ini_X2, co_X2_wanted, by decide +kernel⟩
theorem sS_X9_167 : SiteS RX9 167 yX9_isSacks cX9_isSacks 1 (some .boolean) 1 := ⟨ml_X9_167, st_X9_isSacks, ini_X9, co_X9_isSacks, by decide +kernel⟩
theorem sV_X9_170 : SiteV RX9 170 yX8_layAlone cX8_layAlone 4 none 3 := ⟨ml_X9_170, im_X8_layAlone, se_X8_layAlone, ini_X8, co_X8_layAlone, by decide +kernel⟩
theorem sV_X9_173 : SiteV RX9 173 yX8_thousandths cX8_thousandths 2 (some .long) 1 := ⟨ml_X9_173, im_X8_thousandths, se_X8_thousandths, ini_X8, co_X8_thousandths, by decide +kernel⟩
theorem sV_X9_178 : SiteV RX9 178 yX8_whole cX8_whole 4 (some .long) 2 := ⟨ml_X9_178, im_X8_whole, se_X8_whole, ini_X8, co_X8_whole, by decide +kernel⟩
theorem sV_X9_181 : SiteV RX9 181 yX8_leastSacks cX8_leastSacks 4 (some .int) 1 := ⟨ml_X9_181, im_X8_leastSacks, se_X8_leastSacks, ini_X8, co_X8_leastSacks, by decide +kernel⟩
theorem sV_X9_184 : SiteV RX9 184 yX8_gatherAlone cX8_gatherAlone 5 none 3 := ⟨ml_X9_184, im_X8_gatherAlone, se_X8_gatherAlone, ini_X8, co_X8_gatherAlone, by decide +kernel⟩
theorem sV_X9_187 : SiteV RX9 187 yX8_enough cX8_enough 5 (some .long) 1 := ⟨ml_X9_187, im_X8_enough, se_X8_enough, ini_X8, co_X8_enough, by decide +kernel⟩
theorem sV_X9_192 : SiteV RX9 192 yX8_partsWanting cX8_partsWanting 2 (some .long) 1 := ⟨ml_X9_192, im_X8_partsWanting, se_X8_partsWanting, ini_X8, co_X8_partsWanting, by decide +kernel⟩
theorem sV_X9_195 : SiteV RX9 195 yX8_packRoom cX8_packRoom 6 (some .long) 2 := ⟨ml_X9_195, im_X8_packRoom, se_X8_packRoom, ini_X8, co_X8_packRoom, by decide +kernel⟩
theorem sV_X9_199 : SiteV RX9 199 yX8_packedSacks cX8_packedSacks 2 (some .int) 1 := ⟨ml_X9_199, im_X8_packedSacks, se_X8_packedSacks, ini_X8, co_X8_packedSacks, by decide +kernel⟩
theorem sV_X9_205 : SiteV RX9 205 yX8_leastWhole cX8_leastWhole 2 (some .long) 1 := ⟨ml_X9_205, im_X8_leastWhole, se_X8_leastWhole, ini_X8, co_X8_leastWhole, by decide +kernel⟩
theorem sV_X9_208 : SiteV RX9 208 yX3_leastFromFirst cX3_leastFromFirst 5 (some .long) 3 := ⟨ml_X9_208, im_X3_leastFromFirst, se_X3_leastFromFirst, ini_X3, co_X3_leastFromFirst, by decide +kernel⟩
theorem sV_X9_212 : SiteV RX9 212 yX3_begin cX3_begin 7 none 4 := ⟨ml_X9_212, im_X3_begin, se_X3_begin, ini_X3, co_X3_begin, by decide +kernel⟩
theorem sV_X9_216 : SiteV RX9 216 yX3_sentOn cX3_sentOn 4 (some .int) 2 := ⟨ml_X9_216, im_X3_sentOn, se_X3_sentOn, ini_X3, co_X3_sentOn, by decide +kernel⟩
theorem sV_X9_220 : SiteV RX9 220 yX3_lastSentInClear cX3_lastSentInClear 4 (some .int) 3 := ⟨ml_X9_220, im_X3_lastSentInClear, se_X3_lastSentInClear, ini_X3, co_X3_lastSentInClear, by decide +kernel⟩
theorem sV_X9_233 : SiteV RX9 233 yX2_loadsOf cX2_loadsOf 2 (some .int) 1 := ⟨ml_X9_233, im_X2_loadsOf, se_X2_loadsOf, ini_X2, co_X2_loadsOf, by decide +kernel⟩
set_option maxHeartbeats 4000000 in
set_option maxRecDepth 100000 in
theorem t_X9_isSacks (l : Launch) (D : va_G) (cy : Nat → ClassId) (base : Nat) (τ : Nat → Nat) (G : Gh) (v : Int32) : MM l yX9_isSacks cX9_isSacks 1 (some .boolean) 0 0 0 D cy [.int v] (PT D cy base τ G) (PuI (fun r => ((r = 1 ∧ 0 ≤ v.toInt ∧ v.toInt ≤ 999) ∨ (r = 0)))) noF := by
  refine MM.of (by decide) (Nat.le_of_ble_eq_true rfl) ?_
  intro p e s m below meth c C hPT ls hl
  obtain ⟨hx, hb, hr, hml, hown, hts, hlocks, hK, hnm⟩ := C
  obtain ⟨hZ, hT⟩ := hPT
  have hS : va_S (RA base) s.heap s.heap [] := va_S.rf
  have hl : lv_has ls 1 [(0, .int v)] := hl
  refine lv_iload_n hx hb dX9_isSacks_0 rfl (lv_at hl 0 rfl) ?_
  refine lv_if_lt (tgt := 15) hx hb dX9_isSacks_1 (by decide) (fun c_1 => ?_) (fun c_1 => ?_)
  · skip
    have tc_1 : v.toInt < 0 := (fa_lt _ _).mp c_1
    refine lv_iconst (v := 0) hx hb dX9_isSacks_15 (by decide) ?_
    exact ret_z (ty := .boolean) hx hb hr rfl hlocks ⟨rfl, _, rfl, (Or.inr rfl)⟩ (fun _ h => absurd h List.not_mem_nil) (Nat.le_refl _) (Nat.le_refl _) dX9_isSacks_16
  · skip
    have tc_1 : ¬ v.toInt < 0 := fun h => c_1 ((fa_lt _ _).mpr h)
    refine lv_iload_n hx hb dX9_isSacks_4 rfl (lv_at hl 0 rfl) ?_
    refine lv_sipush (v := 999) hx hb dX9_isSacks_5 (by decide) ?_
    refine lv_icmp_gt (tgt := 15) hx hb dX9_isSacks_8 (by decide) (fun c_2 => ?_) (fun c_2 => ?_)
    · skip
      have tc_2 : 999 < v.toInt := (fa_lt _ _).mp c_2
      have mc_2 : v.toInt ≤ 2147483647 := max_t v
      refine lv_iconst (v := 0) hx hb dX9_isSacks_15 (by decide) ?_
      exact ret_z (ty := .boolean) hx hb hr rfl hlocks ⟨rfl, _, rfl, (Or.inr rfl)⟩ (fun _ h => absurd h List.not_mem_nil) (Nat.le_refl _) (Nat.le_refl _) dX9_isSacks_16
    · skip
      have tc_2 : ¬ 999 < v.toInt := fun h => c_2 ((fa_lt _ _).mpr h)
      refine lv_iconst (v := 1) hx hb dX9_isSacks_11 (by decide) ?_
      refine lv_goto (tgt := 16) hx hb dX9_isSacks_12 (by decide) ?_
      exact ret_z (ty := .boolean) hx hb hr rfl hlocks ⟨rfl, _, rfl, (Or.inl ⟨rfl, (by omega), (by omega)⟩)⟩ (fun _ h => absurd h List.not_mem_nil) (Nat.le_refl _) (Nat.le_refl _) dX9_isSacks_16
set_option maxHeartbeats 4000000 in
set_option maxRecDepth 100000 in
theorem t_X9_isHundredth (l : Launch) (D : va_G) (cy : Nat → ClassId) (base : Nat) (τ : Nat → Nat) (G : Gh) (v : Int32) : MM l yX9_isHundredth cX9_isHundredth 1 (some .boolean) 0 0 0 D cy [.int v] (PT D cy base τ G) (PuI (fun r => ((r = 1 ∧ 0 ≤ v.toInt ∧ v.toInt ≤ 100) ∨ (r = 0)))) noF := by
  refine MM.of (by decide) (Nat.le_of_ble_eq_true rfl) ?_
  intro p e s m below meth c C hPT ls hl
  obtain ⟨hx, hb, hr, hml, hown, hts, hlocks, hK, hnm⟩ := C
  obtain ⟨hZ, hT⟩ := hPT
  have hS : va_S (RA base) s.heap s.heap [] := va_S.rf
  have hl : lv_has ls 1 [(0, .int v)] := hl
  refine lv_iload_n hx hb dX9_isHundredth_0 rfl (lv_at hl 0 rfl) ?_
  refine lv_if_lt (tgt := 14) hx hb dX9_isHundredth_1 (by decide) (fun c_1 => ?_) (fun c_1 => ?_)
  · skip
    have tc_1 : v.toInt < 0 := (fa_lt _ _).mp c_1
    refine lv_iconst (v := 0) hx hb dX9_isHundredth_14 (by decide) ?_
    exact ret_z (ty := .boolean) hx hb hr rfl hlocks ⟨rfl, _, rfl, (Or.inr rfl)⟩ (fun _ h => absurd h List.not_mem_nil) (Nat.le_refl _) (Nat.le_refl _) dX9_isHundredth_15
  · skip
    have tc_1 : ¬ v.toInt < 0 := fun h => c_1 ((fa_lt _ _).mpr h)
    refine lv_iload_n hx hb dX9_isHundredth_4 rfl (lv_at hl 0 rfl) ?_
    refine lv_bipush (v := 100) hx hb dX9_isHundredth_5 (by decide) ?_
    refine lv_icmp_gt (tgt := 14) hx hb dX9_isHundredth_7 (by decide) (fun c_2 => ?_) (fun c_2 => ?_)
    · skip
      have tc_2 : 100 < v.toInt := (fa_lt _ _).mp c_2
      have mc_2 : v.toInt ≤ 2147483647 := max_t v
      refine lv_iconst (v := 0) hx hb dX9_isHundredth_14 (by decide) ?_
      exact ret_z (ty := .boolean) hx hb hr rfl hlocks ⟨rfl, _, rfl, (Or.inr rfl)⟩ (fun _ h => absurd h List.not_mem_nil) (Nat.le_refl _) (Nat.le_refl _) dX9_isHundredth_15
    · skip
      have tc_2 : ¬ 100 < v.toInt := fun h => c_2 ((fa_lt _ _).mpr h)
      refine lv_iconst (v := 1) hx hb dX9_isHundredth_10 (by decide) ?_
      refine lv_goto (tgt := 15) hx hb dX9_isHundredth_11 (by decide) ?_
      exact ret_z (ty := .boolean) hx hb hr rfl hlocks ⟨rfl, _, rfl, (Or.inl ⟨rfl, (by omega), (by omega)⟩)⟩ (fun _ h => absurd h List.not_mem_nil) (Nat.le_refl _) (Nat.le_refl _) dX9_isHundredth_15
set_option maxHeartbeats 4000000 in
set_option maxRecDepth 100000 in
theorem t_X9_isSeed (l : Launch) (D : va_G) (cy : Nat → ClassId) (base : Nat) (τ : Nat → Nat) (G : Gh) (v : Int32) : MM l yX9_isSeed cX9_isSeed 1 (some .boolean) 0 0 0 D cy [.int v] (PT D cy base τ G) (PuI (fun r => ((r = 1 ∧ 0 ≤ v.toInt ∧ v.toInt ≤ 2000000000) ∨ (r = 0)))) noF := by
  refine MM.of (by decide) (Nat.le_of_ble_eq_true rfl) ?_
  intro p e s m below meth c C hPT ls hl
  obtain ⟨hx, hb, hr, hml, hown, hts, hlocks, hK, hnm⟩ := C
  obtain ⟨hZ, hT⟩ := hPT
  have hS : va_S (RA base) s.heap s.heap [] := va_S.rf
  have hl : lv_has ls 1 [(0, .int v)] := hl
  refine lv_iload_n hx hb dX9_isSeed_0 rfl (lv_at hl 0 rfl) ?_
  refine lv_if_lt (tgt := 15) hx hb dX9_isSeed_1 (by decide) (fun c_1 => ?_) (fun c_1 => ?_)
  · skip
    have tc_1 : v.toInt < 0 := (fa_lt _ _).mp c_1
    refine lv_iconst (v := 0) hx hb dX9_isSeed_15 (by decide) ?_
    exact ret_z (ty := .boolean) hx hb hr rfl hlocks ⟨rfl, _, rfl, (Or.inr rfl)⟩ (fun _ h => absurd h List.not_mem_nil) (Nat.le_refl _) (Nat.le_refl _) dX9_isSeed_16
  · skip
    have tc_1 : ¬ v.toInt < 0 := fun h => c_1 ((fa_lt _ _).mpr h)
    refine lv_iload_n hx hb dX9_isSeed_4 rfl (lv_at hl 0 rfl) ?_
    refine lv_ldcw (v := 2000000000) hx hb hown (hts _ ki_X9_383) dX9_isSeed_5 ?_
    refine lv_icmp_gt (tgt := 15) hx hb dX9_isSeed_8 (by decide) (fun c_2 => ?_) (fun c_2 => ?_)
    · skip
      have tc_2 : 2000000000 < v.toInt := (fa_lt _ _).mp c_2
      have mc_2 : v.toInt ≤ 2147483647 := max_t v
      refine lv_iconst (v := 0) hx hb dX9_isSeed_15 (by decide) ?_
      exact ret_z (ty := .boolean) hx hb hr rfl hlocks ⟨rfl, _, rfl, (Or.inr rfl)⟩ (fun _ h => absurd h List.not_mem_nil) (Nat.le_refl _) (Nat.le_refl _) dX9_isSeed_16
    · skip
      have tc_2 : ¬ 2000000000 < v.toInt := fun h => c_2 ((fa_lt _ _).mpr h)
      refine lv_iconst (v := 1) hx hb dX9_isSeed_11 (by decide) ?_
      refine lv_goto (tgt := 16) hx hb dX9_isSeed_12 (by decide) ?_
      exact ret_z (ty := .boolean) hx hb hr rfl hlocks ⟨rfl, _, rfl, (Or.inl ⟨rfl, (by omega), (by omega)⟩)⟩ (fun _ h => absurd h List.not_mem_nil) (Nat.le_refl _) (Nat.le_refl _) dX9_isSeed_16
set_option maxHeartbeats 4000000 in
set_option maxRecDepth 100000 in
theorem t_X9_isSlot (l : Launch) (D : va_G) (cy : Nat → ClassId) (base : Nat) (τ : Nat → Nat) (G : Gh) (v : Int32) : MM l yX9_isSlot cX9_isSlot 1 (some .boolean) 0 0 0 D cy [.int v] (PT D cy base τ G) (PuI (fun r => ((r = 1 ∧ 0 ≤ v.toInt ∧ v.toInt ≤ 3) ∨ (r = 0)))) noF := by
  refine MM.of (by decide) (Nat.le_of_ble_eq_true rfl) ?_
  intro p e s m below meth c C hPT ls hl
  obtain ⟨hx, hb, hr, hml, hown, hts, hlocks, hK, hnm⟩ := C
  obtain ⟨hZ, hT⟩ := hPT
  have hS : va_S (RA base) s.heap s.heap [] := va_S.rf
  have hl : lv_has ls 1 [(0, .int v)] := hl
  refine lv_iload_n hx hb dX9_isSlot_0 rfl (lv_at hl 0 rfl) ?_
  refine lv_if_lt (tgt := 13) hx hb dX9_isSlot_1 (by decide) (fun c_1 => ?_) (fun c_1 => ?_)
  · skip
    have tc_1 : v.toInt < 0 := (fa_lt _ _).mp c_1
    refine lv_iconst (v := 0) hx hb dX9_isSlot_13 (by decide) ?_
    exact ret_z (ty := .boolean) hx hb hr rfl hlocks ⟨rfl, _, rfl, (Or.inr rfl)⟩ (fun _ h => absurd h List.not_mem_nil) (Nat.le_refl _) (Nat.le_refl _) dX9_isSlot_14
  · skip
    have tc_1 : ¬ v.toInt < 0 := fun h => c_1 ((fa_lt _ _).mpr h)
    refine lv_iload_n hx hb dX9_isSlot_4 rfl (lv_at hl 0 rfl) ?_
    refine lv_iconst (v := 4) hx hb dX9_isSlot_5 (by decide) ?_
    refine lv_icmp_ge (tgt := 13) hx hb dX9_isSlot_6 (by decide) (fun c_2 => ?_) (fun c_2 => ?_)
    · skip
      have tc_2 : 4 ≤ v.toInt := (fa_le _ _).mp c_2
      refine lv_iconst (v := 0) hx hb dX9_isSlot_13 (by decide) ?_
      exact ret_z (ty := .boolean) hx hb hr rfl hlocks ⟨rfl, _, rfl, (Or.inr rfl)⟩ (fun _ h => absurd h List.not_mem_nil) (Nat.le_refl _) (Nat.le_refl _) dX9_isSlot_14
    · skip
      have tc_2 : ¬ 4 ≤ v.toInt := fun h => c_2 ((fa_le _ _).mpr h)
      refine lv_iconst (v := 1) hx hb dX9_isSlot_9 (by decide) ?_
      refine lv_goto (tgt := 14) hx hb dX9_isSlot_10 (by decide) ?_
      exact ret_z (ty := .boolean) hx hb hr rfl hlocks ⟨rfl, _, rfl, (Or.inl ⟨rfl, (by omega), (by omega)⟩)⟩ (fun _ h => absurd h List.not_mem_nil) (Nat.le_refl _) (Nat.le_refl _) dX9_isSlot_14
set_option maxHeartbeats 4000000 in
set_option maxRecDepth 100000 in
theorem t_X9_slotsInUse (l : Launch) (D : va_G) (cy : Nat → ClassId) (base : Nat) (τ : Nat → Nat) (G : Gh) (a : Nat) (h_a : τ a = 1) : MM l yX9_slotsInUse cX9_slotsInUse 3 (some .int) 0 0 0 D cy [.ref a] (PT D cy base τ G) (PuI (fun r => True)) noF := by
  refine MM.of (by decide) (Nat.le_of_ble_eq_true rfl) ?_
  intro p e s m below meth c C hPT ls hl
  obtain ⟨hx, hb, hr, hml, hown, hts, hlocks, hK, hnm⟩ := C
  obtain ⟨hZ, hT⟩ := hPT
  have hS : va_S (RA base) s.heap s.heap [] := va_S.rf
  have hl : lv_has ls 3 [(0, .ref a)] := hl
  refine lv_iconst (v := 0) hx hb dX9_slotsInUse_0 (by decide) ?_
  refine lv_istore_n (lv' := [(1, .int 0), (0, .ref a)]) hx hb dX9_slotsInUse_1 rfl hl (by decide) rfl (fun ls hl => ?_)
  refine lv_iconst (v := 0) hx hb dX9_slotsInUse_2 (by decide) ?_
  refine lv_istore_n (lv' := [(2, .int 0), (1, .int 0), (0, .ref a)]) hx hb dX9_slotsInUse_3 rfl hl (by decide) rfl (fun ls hl => ?_)
  refine W.loop (σ := Int32 × Int32) (fun w1 H locs ls => 0 ≤ w1.2.toInt ∧ w1.2.toInt ≤ 4 ∧ H = s.heap ∧ locs = [] ∧ lv_has ls 3 [(1, .int w1.1), (2, .int w1.2), (0, .ref a)]) (fun w1 => (4 - w1.2.toInt).toNat) ?_ ((0 : Int32), (0 : Int32)) _ _ _ ⟨(by show 0 ≤ (0 : Int32).toInt; decide), (by show (0 : Int32).toInt ≤ 4; decide), rfl, rfl, lv_sub hl [1, 0, 2] rfl⟩
  intro w1 H locs ls hI ih1
  obtain ⟨x1_1, x1_2⟩ := w1
  obtain ⟨i1_0, i1_1, rfl, rfl, hl⟩ := hI
  have i1_0 : 0 ≤ x1_2.toInt := i1_0
  have i1_1 : x1_2.toInt ≤ 4 := i1_1
  have hl : lv_has ls 3 [(1, .int x1_1), (2, .int x1_2), (0, .ref a)] := hl
  refine lv_iload_n hx hb dX9_slotsInUse_4 rfl (lv_at hl 1 rfl) ?_
  refine lv_iconst (v := 4) hx hb dX9_slotsInUse_5 (by decide) ?_
  refine lv_icmp_ge (tgt := 32) hx hb dX9_slotsInUse_6 (by decide) (fun c_2 => ?_) (fun c_2 => ?_)
  · skip
    have tc_2 : 4 ≤ x1_2.toInt := (fa_le _ _).mp c_2
    refine lv_iload_n hx hb dX9_slotsInUse_32 rfl (lv_at hl 0 rfl) ?_
    exact ret_i hx hb hr hlocks ⟨rfl, _, rfl, trivial⟩ (fun _ h => absurd h List.not_mem_nil) (Nat.le_refl _) (Nat.le_refl _) dX9_slotsInUse_33
  · skip
    have tc_2 : ¬ 4 ≤ x1_2.toInt := fun h => c_2 ((fa_le _ _).mpr h)
    refine lv_iload_n hx hb dX9_slotsInUse_9 rfl (lv_at hl 0 rfl) ?_
    refine lv_aload_n hx hb dX9_slotsInUse_10 rfl (lv_at hl 2 rfl) ?_
    refine t_getr cf_1 hx hb hts hown hK hT h_a (k := 7) (P := fun q => τ q = 23) rfl (fun _ h9 => h9) fl_X9_54 (fun _ h9 => h9) dX9_slotsInUse_11 (fun q_3 eq_3 hq_3 => ?_)
    refine lv_iload_n hx hb dX9_slotsInUse_14 rfl (lv_at hl 1 rfl) ?_
    refine t_aald4 (n := 4) (i := x1_2) (P := fun q => τ q = 9) rfl (by decide) hx hb hK hT hq_3 (hT.len hq_3 (by decide)) ⟨by omega, by omega⟩ (fun _ _ h9 => h9) dX9_slotsInUse_15 (fun eq_4 => ?_) (fun q_4 eq_4 hq_4 => ?_)
    · skip
      refine lv_ifnonnullN hx hb dX9_slotsInUse_16 ?_
      refine lv_iconst (v := 0) hx hb dX9_slotsInUse_19 (by decide) ?_
      refine lv_goto (tgt := 24) hx hb dX9_slotsInUse_20 (by decide) ?_
      refine lv_iadd hx hb dX9_slotsInUse_24 ?_
      refine lv_topi (fun z_5 ez_5 => ?_)
      refine lv_istore_n (lv' := [(1, .int z_5), (2, .int x1_2), (0, .ref a)]) hx hb dX9_slotsInUse_25 rfl hl (by decide) rfl (fun ls hl => ?_)
      obtain ⟨z_6, ez_6⟩ : ∃ y : Int32, y = x1_2 + 1 := ⟨_, rfl⟩
      have tz_6 : z_6.toInt = x1_2.toInt + 1 := add_t ez_6 (show -2147483648 ≤ x1_2.toInt + 1 by omega) (show x1_2.toInt + 1 < 2147483648 by omega)
      refine lv_iinc (v := z_6) (lv' := [(2, .int z_6), (1, .int z_5), (0, .ref a)]) hx hb dX9_slotsInUse_26 hl (k := 1) rfl (by rw [ez_6]; rfl) (by decide) rfl (fun ls hl => ?_)
      refine lv_goto (tgt := 4) hx hb dX9_slotsInUse_29 (by decide) ?_
      exact ih1 (z_5, z_6) _ _ _ (by show (4 - z_6.toInt).toNat < (4 - x1_2.toInt).toNat; omega) ⟨(by show 0 ≤ z_6.toInt; omega), (by show z_6.toInt ≤ 4; omega), rfl, rfl, lv_sub hl [1, 0, 2] rfl⟩
    · skip
      refine lv_ifnonnull (tgt := 23) hx hb dX9_slotsInUse_16 (by decide) ?_
      refine lv_iconst (v := 1) hx hb dX9_slotsInUse_23 (by decide) ?_
      refine lv_iadd hx hb dX9_slotsInUse_24 ?_
      refine lv_topi (fun z_7 ez_7 => ?_)
      refine lv_istore_n (lv' := [(1, .int z_7), (2, .int x1_2), (0, .ref a)]) hx hb dX9_slotsInUse_25 rfl hl (by decide) rfl (fun ls hl => ?_)
      obtain ⟨z_8, ez_8⟩ : ∃ y : Int32, y = x1_2 + 1 := ⟨_, rfl⟩
      have tz_8 : z_8.toInt = x1_2.toInt + 1 := add_t ez_8 (show -2147483648 ≤ x1_2.toInt + 1 by omega) (show x1_2.toInt + 1 < 2147483648 by omega)
      refine lv_iinc (v := z_8) (lv' := [(2, .int z_8), (1, .int z_7), (0, .ref a)]) hx hb dX9_slotsInUse_26 hl (k := 1) rfl (by rw [ez_8]; rfl) (by decide) rfl (fun ls hl => ?_)
      refine lv_goto (tgt := 4) hx hb dX9_slotsInUse_29 (by decide) ?_
      exact ih1 (z_7, z_8) _ _ _ (by show (4 - z_8.toInt).toNat < (4 - x1_2.toInt).toNat; omega) ⟨(by show 0 ≤ z_8.toInt; omega), (by show z_8.toInt ≤ 4; omega), rfl, rfl, lv_sub hl [1, 0, 2] rfl⟩
set_option maxHeartbeats 4000000 in
set_option maxRecDepth 100000 in
theorem t_X9_tapeFour (l : Launch) (D : va_G) (cy : Nat → ClassId) (base : Nat) (τ : Nat → Nat) (G : Gh) (a : Nat) (h_a : τ a = 1) (v : Int32) : MM l yX9_tapeFour cX9_tapeFour 3 none 0 0 0 D cy [.ref a, .int v] (PT D cy base τ G) (QT D cy base τ G [1, 20] (fun v g => v = none ∧ (True))) (RA base) := by
  refine MM.of (by decide) (Nat.le_of_ble_eq_true rfl) ?_
  intro p e s m below meth c C hPT ls hl
  obtain ⟨hx, hb, hr, hml, hown, hts, hlocks, hK, hnm⟩ := C
  obtain ⟨hZ, hT⟩ := hPT
  have hS : va_S (RA base) s.heap s.heap [] := va_S.rf
  have hF : Fr τ [1, 20] G G := Fr.rf
  have hl : lv_has ls 3 [(0, .ref a), (1, .int v)] := hl
  refine lv_bipush (v := 24) hx hb dX9_tapeFour_0 (by decide) ?_
  refine lv_istore_n (lv' := [(2, .int 24), (0, .ref a), (1, .int v)]) hx hb dX9_tapeFour_2 rfl hl (by decide) rfl (fun ls hl => ?_)
  refine W.loop (σ := Int32 × Gh) (fun w1 H locs ls => -8 ≤ w1.1.toInt ∧ w1.1.toInt ≤ 24 ∧ Fr τ [1, 20] G w1.2 ∧ TY D cy base τ w1.2 H ∧ va_S (RA base) s.heap H locs ∧ lv_has ls 3 [(2, .int w1.1), (0, .ref a), (1, .int v)]) (fun w1 => (w1.1.toInt + 8).toNat) ?_ ((24 : Int32), G) _ _ _ ⟨(by show -8 ≤ (24 : Int32).toInt; decide), (by show (24 : Int32).toInt ≤ 24; decide), hF, hT, hS, lv_sub hl [0, 1, 2] rfl⟩
  intro w1 H locs ls hI ih1
  obtain ⟨x1_2, G_1⟩ := w1
  obtain ⟨i1_0, i1_1, hF, hT, hS, hl⟩ := hI
  have i1_0 : -8 ≤ x1_2.toInt := i1_0
  have i1_1 : x1_2.toInt ≤ 24 := i1_1
  have hF : Fr τ [1, 20] G G_1 := hF
  have hT : TY D cy base τ G_1 H := hT
  have hS : va_S (RA base) s.heap H locs := hS
  have hl : lv_has ls 3 [(2, .int x1_2), (0, .ref a), (1, .int v)] := hl
  refine lv_iload_n hx hb dX9_tapeFour_3 rfl (lv_at hl 0 rfl) ?_
  refine lv_if_lt (tgt := 46) hx hb dX9_tapeFour_4 (by decide) (fun c_2 => ?_) (fun c_2 => ?_)
  · skip
    have tc_2 : x1_2.toInt < 0 := (fa_lt _ _).mp c_2
    exact ret_v hx hb hr hlocks ⟨⟨hS.1, hS.2.1⟩, G_1, hF, ⟨rfl, trivial⟩, hT⟩ hS.2.2 (Nat.le_of_ble_eq_true rfl) (Nat.le_of_ble_eq_true rfl) dX9_tapeFour_46
  · skip
    have tc_2 : ¬ x1_2.toInt < 0 := fun h => c_2 ((fa_lt _ _).mpr h)
    refine lv_aload_n hx hb dX9_tapeFour_7 rfl (lv_at hl 1 rfl) ?_
    refine t_geti cf_1 hx hb hts hown hK hT h_a (k := 9) rfl fl_X9_75 (fun _ h9 => h9) dX9_tapeFour_8 (fun z_3 ez_3 rz_3 => ?_)
    have ez_3 : z_3 = G_1.1 a 9 := ez_3
    have rz_3 : 0 ≤ z_3.toInt ∧ z_3.toInt ≤ 1600 := rz_3
    refine lv_sipush (v := 1600) hx hb dX9_tapeFour_11 (by decide) ?_
    refine lv_icmp_ge (tgt := 40) hx hb dX9_tapeFour_14 (by decide) (fun c_4 => ?_) (fun c_4 => ?_)
    · skip
      have tc_4 : 1600 ≤ z_3.toInt := (fa_le _ _).mp c_4
      obtain ⟨z_5, ez_5⟩ : ∃ y : Int32, y = x1_2 + (-8) := ⟨_, rfl⟩
      have tz_5 : z_5.toInt = x1_2.toInt + -8 := add_t ez_5 (show -2147483648 ≤ x1_2.toInt + -8 by omega) (show x1_2.toInt + -8 < 2147483648 by omega)
      refine lv_iinc (v := z_5) (lv' := [(2, .int z_5), (0, .ref a), (1, .int v)]) hx hb dX9_tapeFour_40 hl (k := 0) rfl (by rw [ez_5]; rfl) (by decide) rfl (fun ls hl => ?_)
      refine lv_goto (tgt := 3) hx hb dX9_tapeFour_43 (by decide) ?_
      exact ih1 (z_5, G_1) _ _ _ (by show (z_5.toInt + 8).toNat < (x1_2.toInt + 8).toNat; omega) ⟨(by show -8 ≤ z_5.toInt; omega), (by show z_5.toInt ≤ 24; omega), hF, hT, hS, lv_sub hl [0, 1, 2] rfl⟩
    · skip
      have tc_4 : ¬ 1600 ≤ z_3.toInt := fun h => c_4 ((fa_le _ _).mpr h)
      refine lv_aload_n hx hb dX9_tapeFour_17 rfl (lv_at hl 1 rfl) ?_
      refine t_getr cf_1 hx hb hts hown hK hT h_a (k := 0) (P := fun q => τ q = 20 ∧ G_1.2.2.2 q = 1600) rfl (fun _ h9 => h9) fl_X9_9 (fun _ h9 => h9) dX9_tapeFour_18 (fun q_6 eq_6 hq_6 => ?_)
      obtain ⟨hq_6, nq_6⟩ := hq_6
      have nq_6 : G.2.2.2 q_6 = 1600 := (hF.n hq_6 (by decide)).symm.trans nq_6
      have eq_6 := (hF.r h_a (by decide) rfl _).symm.trans eq_6
      refine lv_aload_n hx hb dX9_tapeFour_21 rfl (lv_at hl 1 rfl) ?_
      refine t_geti cf_1 hx hb hts hown hK hT h_a (k := 9) rfl fl_X9_75 (fun _ h9 => h9) dX9_tapeFour_22 (fun z_7 ez_7 rz_7 => ?_)
      have w_8 : z_3 = z_7 := ez_3.trans ez_7.symm
      subst w_8
      refine lv_iload_n hx hb dX9_tapeFour_25 rfl (lv_at hl 2 rfl) ?_
      refine lv_iload_n hx hb dX9_tapeFour_26 rfl (lv_at hl 0 rfl) ?_
      refine lv_ishr hx hb dX9_tapeFour_27 ?_
      refine lv_topi (fun z_9 ez_9 => ?_)
      refine lv_i2b hx hb dX9_tapeFour_28 rfl ?_
      refine lv_topi (fun z_10 ez_10 => ?_)
      refine t_bast (n := 1600) (i := z_3) (x := z_10) rfl (by decide) hx hb hK hT hS hq_6 ((hF.n hq_6 (by decide)).trans nq_6) ⟨by omega, by omega⟩ trivial dX9_tapeFour_29 (fun H locs G_11 eG_11 hT hS => ?_)
      have hF := hF.wI eG_11 hq_6 rfl
      have k_12 : z_3 = G_11.1 a 9 := by rw [eG_11, wI_ne (Or.inl (tag_ne hq_6 h_a (by decide)))]; exact ez_3
      refine lv_aload_n hx hb dX9_tapeFour_30 rfl (lv_at hl 1 rfl) ?_
      refine lv_dup hx hb dX9_tapeFour_31 rfl ?_
      refine t_geti cf_1 hx hb hts hown hK hT h_a (k := 9) rfl fl_X9_75 (fun _ h9 => h9) dX9_tapeFour_32 (fun z_13 ez_13 rz_13 => ?_)
      have w_14 : z_3 = z_13 := k_12.trans ez_13.symm
      subst w_14
      refine lv_iconst (v := 1) hx hb dX9_tapeFour_35 (by decide) ?_
      refine lv_iadd hx hb dX9_tapeFour_36 ?_
      refine lv_topi (fun z_15 ez_15 => ?_)
      have tz_15 : z_15.toInt = z_3.toInt + 1 := add_t ez_15 (show -2147483648 ≤ z_3.toInt + 1 by omega) (show z_3.toInt + 1 < 2147483648 by omega)
      refine t_puti (x := z_15) cf_1 hx hb hts hown hK hT hS h_a (k := 9) rfl (show 0 ≤ z_15.toInt ∧ z_15.toInt ≤ 1600 from ⟨by omega, by omega⟩) fl_X9_75 (fun _ h9 => h9) rfl rfl rfl dX9_tapeFour_37 (fun H locs G_16 eG_16 hT hS => ?_)
      have hF := hF.wI eG_16 h_a rfl
      have k_18 : z_15 = G_16.1 a 9 := by rw [eG_16, wI_at]
      obtain ⟨z_19, ez_19⟩ : ∃ y : Int32, y = x1_2 + (-8) := ⟨_, rfl⟩
      have tz_19 : z_19.toInt = x1_2.toInt + -8 := add_t ez_19 (show -2147483648 ≤ x1_2.toInt + -8 by omega) (show x1_2.toInt + -8 < 2147483648 by omega)
      refine lv_iinc (v := z_19) (lv' := [(2, .int z_19), (0, .ref a), (1, .int v)]) hx hb dX9_tapeFour_40 hl (k := 0) rfl (by rw [ez_19]; rfl) (by decide) rfl (fun ls hl => ?_)
      refine lv_goto (tgt := 3) hx hb dX9_tapeFour_43 (by decide) ?_
      exact ih1 (z_19, G_16) _ _ _ (by show (z_19.toInt + 8).toNat < (x1_2.toInt + 8).toNat; omega) ⟨(by show -8 ≤ z_19.toInt; omega), (by show z_19.toInt ≤ 24; omega), hF, hT, hS, lv_sub hl [0, 1, 2] rfl⟩
set_option maxHeartbeats 4000000 in
set_option maxRecDepth 100000 in
theorem t_X9_feed (l : Launch) (D : va_G) (cy : Nat → ClassId) (base : Nat) (τ : Nat → Nat) (G : Gh) (a : Nat) (h_a : τ a = 1) (v0 : Int32) (v1 : Int32) (v2 : Int32) (v3 : Int32) (v4 : Int32) : MM l yX9_feed cX9_feed 6 (some .int) 1 0 0 D cy [.ref a, .int v0, .int v1, .int v2, .int v3, .int v4] (PT D cy base τ G) (QT D cy base τ G [1, 20] (fun v g => ∃ r : Int32, v = some (.int r) ∧ (True))) (RA base) := by
  refine MM.of (by decide) (Nat.le_of_ble_eq_true rfl) ?_
  intro p e s m below meth c C hPT ls hl
  obtain ⟨hx, hb, hr, hml, hown, hts, hlocks, hK, hnm⟩ := C
  obtain ⟨hZ, hT⟩ := hPT
  have hS : va_S (RA base) s.heap s.heap [] := va_S.rf
  have hF : Fr τ [1, 20] G G := Fr.rf
  have hl : lv_has ls 6 [(0, .ref a), (1, .int v0), (2, .int v1), (3, .int v2), (4, .int v3), (5, .int v4)] := hl
  refine lv_aload_n hx hb dX9_feed_0 rfl (lv_at hl 0 rfl) ?_
  refine t_geti cf_1 hx hb hts hown hK hT h_a (k := 9) rfl fl_X9_75 (fun _ h9 => h9) dX9_feed_1 (fun z_1 ez_1 rz_1 => ?_)
  have ez_1 : z_1 = G.1 a 9 := ez_1
  have rz_1 : 0 ≤ z_1.toInt ∧ z_1.toInt ≤ 1600 := rz_1
  refine lv_bipush (v := 20) hx hb dX9_feed_4 (by decide) ?_
  refine lv_iadd hx hb dX9_feed_6 ?_
  refine lv_topi (fun z_2 ez_2 => ?_)
  have tz_2 : z_2.toInt = z_1.toInt + 20 := add_t ez_2 (show -2147483648 ≤ z_1.toInt + 20 by omega) (show z_1.toInt + 20 < 2147483648 by omega)
  refine lv_sipush (v := 1600) hx hb dX9_feed_7 (by decide) ?_
  refine lv_icmp_le (tgt := 15) hx hb dX9_feed_10 (by decide) (fun c_3 => ?_) (fun c_3 => ?_)
  · skip
    have tc_3 : z_2.toInt ≤ 1600 := (fa_le _ _).mp c_3
    refine lv_aload_n hx hb dX9_feed_15 rfl (lv_at hl 0 rfl) ?_
    refine lv_iload_n hx hb dX9_feed_16 rfl (lv_at hl 1 rfl) ?_
    refine t_callv (runV (As := [.int v0]) (rest := []) ⟨hx, hb, hml, hown, hts⟩ (t_X9_tapeFour l D cy base τ G a h_a v0) sV_X9_78 hK (t_recv cf_1 hK hT h_a) ⟨Nat.le_trans hZ hS.1, hT⟩ ⟨Nat.le_of_ble_eq_true rfl, Nat.le_of_ble_eq_true rfl⟩ rfl hl.1 rfl (Nat.le_of_ble_eq_true rfl) dX9_feed_17 ⟨Nat.le_of_ble_eq_true rfl, Nat.le_of_ble_eq_true rfl⟩) hS (fun G_4 H locs hF_4 hr_4 hT hS => ?_)
    have hF := hF.tr hF_4 rfl
    refine lv_aload_n hx hb dX9_feed_20 rfl (lv_at hl 0 rfl) ?_
    refine lv_iload_n hx hb dX9_feed_21 rfl (lv_at hl 2 rfl) ?_
    refine t_callv (runV (As := [.int v1]) (rest := []) ⟨hx, hb, hml, hown, hts⟩ (t_X9_tapeFour l D cy base τ G_4 a h_a v1) sV_X9_78 hK (t_recv cf_1 hK hT h_a) ⟨Nat.le_trans hZ hS.1, hT⟩ ⟨Nat.le_of_ble_eq_true rfl, Nat.le_of_ble_eq_true rfl⟩ rfl hl.1 rfl (Nat.le_of_ble_eq_true rfl) dX9_feed_22 ⟨Nat.le_of_ble_eq_true rfl, Nat.le_of_ble_eq_true rfl⟩) hS (fun G_5 H locs hF_5 hr_5 hT hS => ?_)
    have hF := hF.tr hF_5 rfl
    refine lv_aload_n hx hb dX9_feed_25 rfl (lv_at hl 0 rfl) ?_
    refine lv_iload_n hx hb dX9_feed_26 rfl (lv_at hl 3 rfl) ?_
    refine t_callv (runV (As := [.int v2]) (rest := []) ⟨hx, hb, hml, hown, hts⟩ (t_X9_tapeFour l D cy base τ G_5 a h_a v2) sV_X9_78 hK (t_recv cf_1 hK hT h_a) ⟨Nat.le_trans hZ hS.1, hT⟩ ⟨Nat.le_of_ble_eq_true rfl, Nat.le_of_ble_eq_true rfl⟩ rfl hl.1 rfl (Nat.le_of_ble_eq_true rfl) dX9_feed_27 ⟨Nat.le_of_ble_eq_true rfl, Nat.le_of_ble_eq_true rfl⟩) hS (fun G_6 H locs hF_6 hr_6 hT hS => ?_)
    have hF := hF.tr hF_6 rfl
    refine lv_aload_n hx hb dX9_feed_30 rfl (lv_at hl 0 rfl) ?_
    refine lv_iload hx hb dX9_feed_31 (lv_at hl 4 rfl) ?_
    refine t_callv (runV (As := [.int v3]) (rest := []) ⟨hx, hb, hml, hown, hts⟩ (t_X9_tapeFour l D cy base τ G_6 a h_a v3) sV_X9_78 hK (t_recv cf_1 hK hT h_a) ⟨Nat.le_trans hZ hS.1, hT⟩ ⟨Nat.le_of_ble_eq_true rfl, Nat.le_of_ble_eq_true rfl⟩ rfl hl.1 rfl (Nat.le_of_ble_eq_true rfl) dX9_feed_33 ⟨Nat.le_of_ble_eq_true rfl, Nat.le_of_ble_eq_true rfl⟩) hS (fun G_7 H locs hF_7 hr_7 hT hS => ?_)
    have hF := hF.tr hF_7 rfl
    refine lv_aload_n hx hb dX9_feed_36 rfl (lv_at hl 0 rfl) ?_
    refine lv_iload hx hb dX9_feed_37 (lv_at hl 5 rfl) ?_
    refine t_callv (runV (As := [.int v4]) (rest := []) ⟨hx, hb, hml, hown, hts⟩ (t_X9_tapeFour l D cy base τ G_7 a h_a v4) sV_X9_78 hK (t_recv cf_1 hK hT h_a) ⟨Nat.le_trans hZ hS.1, hT⟩ ⟨Nat.le_of_ble_eq_true rfl, Nat.le_of_ble_eq_true rfl⟩ rfl hl.1 rfl (Nat.le_of_ble_eq_true rfl) dX9_feed_39 ⟨Nat.le_of_ble_eq_true rfl, Nat.le_of_ble_eq_true rfl⟩) hS (fun G_8 H locs hF_8 hr_8 hT hS => ?_)
    have hF := hF.tr hF_8 rfl
    refine lv_aload_n hx hb dX9_feed_42 rfl (lv_at hl 0 rfl) ?_
    refine t_geti cf_1 hx hb hts hown hK hT h_a (k := 9) rfl fl_X9_75 (fun _ h9 => h9) dX9_feed_43 (fun z_9 ez_9 rz_9 => ?_)
    have ez_9 : z_9 = G_8.1 a 9 := ez_9
    have rz_9 : 0 ≤ z_9.toInt ∧ z_9.toInt ≤ 1600 := rz_9
    exact ret_i hx hb hr hlocks ⟨⟨hS.1, hS.2.1⟩, G_8, hF, ⟨_, rfl, trivial⟩, hT⟩ hS.2.2 (Nat.le_of_ble_eq_true rfl) (Nat.le_of_ble_eq_true rfl) dX9_feed_46
  · skip
    have tc_3 : ¬ z_2.toInt ≤ 1600 := fun h => c_3 ((fa_le _ _).mpr h)
    refine lv_iconst (v := (-1)) hx hb dX9_feed_13 (by decide) ?_
    exact ret_i hx hb hr hlocks ⟨⟨hS.1, hS.2.1⟩, G, hF, ⟨_, rfl, trivial⟩, hT⟩ hS.2.2 (Nat.le_of_ble_eq_true rfl) (Nat.le_of_ble_eq_true rfl) dX9_feed_14
set_option maxHeartbeats 4000000 in
set_option maxRecDepth 100000 in
theorem t_X9_end (l : Launch) (D : va_G) (cy : Nat → ClassId) (base : Nat) (τ : Nat → Nat) (G : Gh) (a : Nat) (h_a : τ a = 1) (v : Int32) : MM l yX9_end cX9_end 2 (some .int) 0 0 0 D cy [.ref a, .int v] (PT D cy base τ G) (QT D cy base τ G [1] (fun v g => ∃ r : Int32, v = some (.int r) ∧ (True))) (RA base) := by
  refine MM.of (by decide) (Nat.le_of_ble_eq_true rfl) ?_
  intro p e s m below meth c C hPT ls hl
  obtain ⟨hx, hb, hr, hml, hown, hts, hlocks, hK, hnm⟩ := C
  obtain ⟨hZ, hT⟩ := hPT
  have hS : va_S (RA base) s.heap s.heap [] := va_S.rf
  have hF : Fr τ [1] G G := Fr.rf
  have hl : lv_has ls 2 [(0, .ref a), (1, .int v)] := hl
  refine lv_iload_n hx hb dX9_end_0 rfl (lv_at hl 1 rfl) ?_
  refine lv_if_lt (tgt := 12) hx hb dX9_end_1 (by decide) (fun c_1 => ?_) (fun c_1 => ?_)
  · skip
    have tc_1 : v.toInt < 0 := (fa_lt _ _).mp c_1
    refine lv_iconst (v := (-1)) hx hb dX9_end_12 (by decide) ?_
    exact ret_i hx hb hr hlocks ⟨⟨hS.1, hS.2.1⟩, G, hF, ⟨_, rfl, trivial⟩, hT⟩ hS.2.2 (Nat.le_of_ble_eq_true rfl) (Nat.le_of_ble_eq_true rfl) dX9_end_13
  · skip
    have tc_1 : ¬ v.toInt < 0 := fun h => c_1 ((fa_lt _ _).mpr h)
    refine lv_iload_n hx hb dX9_end_4 rfl (lv_at hl 1 rfl) ?_
    refine lv_aload_n hx hb dX9_end_5 rfl (lv_at hl 0 rfl) ?_
    refine t_geti cf_1 hx hb hts hown hK hT h_a (k := 9) rfl fl_X9_75 (fun _ h9 => h9) dX9_end_6 (fun z_2 ez_2 rz_2 => ?_)
    have ez_2 : z_2 = G.1 a 9 := ez_2
    have rz_2 : 0 ≤ z_2.toInt ∧ z_2.toInt ≤ 1600 := rz_2
    refine lv_icmp_le (tgt := 14) hx hb dX9_end_9 (by decide) (fun c_3 => ?_) (fun c_3 => ?_)
    · skip
      have tc_3 : v.toInt ≤ z_2.toInt := (fa_le _ _).mp c_3
      refine lv_aload_n hx hb dX9_end_14 rfl (lv_at hl 0 rfl) ?_
      refine lv_iload_n hx hb dX9_end_15 rfl (lv_at hl 1 rfl) ?_
      refine t_puti (x := v) cf_1 hx hb hts hown hK hT hS h_a (k := 9) rfl (show 0 ≤ v.toInt ∧ v.toInt ≤ 1600 from ⟨by omega, by omega⟩) fl_X9_75 (fun _ h9 => h9) rfl rfl rfl dX9_end_16 (fun H locs G_4 eG_4 hT hS => ?_)
      have hF := hF.wI eG_4 h_a rfl
      refine lv_iload_n hx hb dX9_end_19 rfl (lv_at hl 1 rfl) ?_
      exact ret_i hx hb hr hlocks ⟨⟨hS.1, hS.2.1⟩, G_4, hF, ⟨_, rfl, trivial⟩, hT⟩ hS.2.2 (Nat.le_of_ble_eq_true rfl) (Nat.le_of_ble_eq_true rfl) dX9_end_20
    · skip
      have tc_3 : ¬ v.toInt ≤ z_2.toInt := fun h => c_3 ((fa_le _ _).mpr h)
      have mc_3 : v.toInt ≤ 2147483647 := max_t v
      refine lv_iconst (v := (-1)) hx hb dX9_end_12 (by decide) ?_
      exact ret_i hx hb hr hlocks ⟨⟨hS.1, hS.2.1⟩, G, hF, ⟨_, rfl, trivial⟩, hT⟩ hS.2.2 (Nat.le_of_ble_eq_true rfl) (Nat.le_of_ble_eq_true rfl) dX9_end_13
set_option maxHeartbeats 4000000 in
set_option maxRecDepth 100000 in
theorem t_X9_fault (l : Launch) (D : va_G) (cy : Nat → ClassId) (base : Nat) (τ : Nat → Nat) (G : Gh) (a : Nat) (h_a : τ a = 1) (v : Int32) : MM l yX9_fault cX9_fault 2 (some .int) 0 0 0 D cy [.ref a, .int v] (PT D cy base τ G) (PuI (fun r => True)) noF := by
  refine MM.of (by decide) (Nat.le_of_ble_eq_true rfl) ?_
  intro p e s m below meth c C hPT ls hl
  obtain ⟨hx, hb, hr, hml, hown, hts, hlocks, hK, hnm⟩ := C
  obtain ⟨hZ, hT⟩ := hPT
  have hS : va_S (RA base) s.heap s.heap [] := va_S.rf
  have hl : lv_has ls 2 [(0, .ref a), (1, .int v)] := hl
  refine lv_iload_n hx hb dX9_fault_0 rfl (lv_at hl 1 rfl) ?_
  refine lv_if_ne (tgt := 9) hx hb dX9_fault_1 (by decide) (fun c_1 => ?_) (fun c_1 => ?_)
  · skip
    have tc_1 : ¬ v.toInt = 0 := fun h => c_1 ((fa_eq _ _).mpr h)
    refine lv_iload_n hx hb dX9_fault_9 rfl (lv_at hl 1 rfl) ?_
    refine lv_iconst (v := 1) hx hb dX9_fault_10 (by decide) ?_
    refine lv_icmp_ne (tgt := 21) hx hb dX9_fault_11 (by decide) (fun c_2 => ?_) (fun c_2 => ?_)
    · skip
      have tc_2 : ¬ v.toInt = 1 := fun h => c_2 ((fa_eq _ _).mpr h)
      refine lv_iconst (v := (-1)) hx hb dX9_fault_21 (by decide) ?_
      exact ret_i hx hb hr hlocks ⟨rfl, _, rfl, trivial⟩ (fun _ h => absurd h List.not_mem_nil) (Nat.le_refl _) (Nat.le_refl _) dX9_fault_22
    · skip
      have tc_2 : v.toInt = 1 := (fa_eq _ _).mp c_2
      refine lv_aload_n hx hb dX9_fault_14 rfl (lv_at hl 0 rfl) ?_
      refine t_geti cf_1 hx hb hts hown hK hT h_a (k := 13) rfl fl_X9_71 (fun _ h9 => h9) dX9_fault_15 (fun z_3 ez_3 rz_3 => ?_)
      have ez_3 : z_3 = G.1 a 13 := ez_3
      refine lv_goto (tgt := 22) hx hb dX9_fault_18 (by decide) ?_
      exact ret_i hx hb hr hlocks ⟨rfl, _, rfl, trivial⟩ (fun _ h => absurd h List.not_mem_nil) (Nat.le_refl _) (Nat.le_refl _) dX9_fault_22
  · skip
    have tc_1 : v.toInt = 0 := (fa_eq _ _).mp c_1
    refine lv_aload_n hx hb dX9_fault_4 rfl (lv_at hl 0 rfl) ?_
    refine t_geti cf_1 hx hb hts hown hK hT h_a (k := 12) rfl fl_X9_89 (fun _ h9 => h9) dX9_fault_5 (fun z_4 ez_4 rz_4 => ?_)
    have ez_4 : z_4 = G.1 a 12 := ez_4
    exact ret_i hx hb hr hlocks ⟨rfl, _, rfl, trivial⟩ (fun _ h => absurd h List.not_mem_nil) (Nat.le_refl _) (Nat.le_refl _) dX9_fault_8
set_option maxHeartbeats 4000000 in
set_option maxRecDepth 100000 in
theorem t_X9_shuts (l : Launch) (D : va_G) (cy : Nat → ClassId) (base : Nat) (τ : Nat → Nat) (G : Gh) (a : Nat) (h_a : τ a = 1) (v0 : Int32) (v1 : Int32) : MM l yX9_shuts cX9_shuts 3 (some .long) 3 0 0 D cy [.ref a, .int v0, .int v1] (PT D cy base τ G) (QT D cy base τ G [32] (fun v g => ∃ r : Int64, v = some (.long r) ∧ (True))) (RA base) := by
  refine MM.of (by decide) (Nat.le_of_ble_eq_true rfl) ?_
  intro p e s m below meth c C hPT ls hl
  obtain ⟨hx, hb, hr, hml, hown, hts, hlocks, hK, hnm⟩ := C
  obtain ⟨hZ, hT⟩ := hPT
  have hS : va_S (RA base) s.heap s.heap [] := va_S.rf
  have hF : Fr τ [32] G G := Fr.rf
  have hl : lv_has ls 3 [(0, .ref a), (1, .int v0), (2, .int v1)] := hl
  refine lv_aload_n hx hb dX9_shuts_0 rfl (lv_at hl 0 rfl) ?_
  refine t_getr cf_1 hx hb hts hown hK hT h_a (k := 10) (P := fun q => τ q = 7) rfl (fun _ h9 => h9) fl_X9_67 (fun _ h9 => h9) dX9_shuts_1 (fun q_1 eq_1 hq_1 => ?_)
  refine lv_iload_n hx hb dX9_shuts_4 rfl (lv_at hl 1 rfl) ?_
  refine pu_calli (runV (As := [.int v0]) (rest := []) ⟨hx, hb, hml, hown, hts⟩ (t_X2_hasValley l D cy base τ G q_1 hq_1 v0) sV_X9_99 hK (t_recv cf_7 hK hT hq_1) ⟨Nat.le_trans hZ hS.1, hT⟩ ⟨Nat.le_of_ble_eq_true rfl, Nat.le_of_ble_eq_true rfl⟩ rfl hl.1 rfl (Nat.le_of_ble_eq_true rfl) dX9_shuts_5 ⟨Nat.le_of_ble_eq_true rfl, Nat.le_of_ble_eq_true rfl⟩) (fun r_2 hr_2 => ?_)
  have hr_2_c := hr_2
  rcases hr_2_c with hr_2_0 | hr_2_1
  · skip
    obtain ⟨er_2, hr_2_0_f0, hr_2_0_f1⟩ := hr_2_0
    have hr_2_0_f0 : 0 ≤ v0.toInt := hr_2_0_f0
    have hr_2_0_f1 : v0.toInt ≤ 5 := hr_2_0_f1
    subst er_2
    refine W.eq (g2 := F0 m 8 ls [.int 1]) rfl ?_
    refine lv_if_eq (tgt := 22) hx hb dX9_shuts_8 (by decide) (fun c_3 => absurd c_3 (by decide)) (fun _ => ?_)
    refine lv_aload_n hx hb dX9_shuts_11 rfl (lv_at hl 0 rfl) ?_
    refine t_getr cf_1 hx hb hts hown hK hT h_a (k := 10) (P := fun q => τ q = 7) rfl (fun _ h9 => h9) fl_X9_67 (fun _ h9 => h9) dX9_shuts_12 (fun q_4 eq_4 hq_4 => ?_)
    have w_5 : q_1 = q_4 := Option.some.inj (eq_1.symm.trans eq_4)
    subst w_5
    refine lv_iload_n hx hb dX9_shuts_15 rfl (lv_at hl 2 rfl) ?_
    refine pu_calli (runV (As := [.int v1]) (rest := []) ⟨hx, hb, hml, hown, hts⟩ (t_X2_hasDayOrNever l D cy base τ G q_1 hq_1 v1) sV_X9_103 hK (t_recv cf_7 hK hT hq_1) ⟨Nat.le_trans hZ hS.1, hT⟩ ⟨Nat.le_of_ble_eq_true rfl, Nat.le_of_ble_eq_true rfl⟩ rfl hl.1 rfl (Nat.le_of_ble_eq_true rfl) dX9_shuts_16 ⟨Nat.le_of_ble_eq_true rfl, Nat.le_of_ble_eq_true rfl⟩) (fun r_6 hr_6 => ?_)
    have hr_6_c := hr_6
    rcases hr_6_c with hr_6_0 | hr_6_1
    · skip
      obtain ⟨er_6, hr_6_0_f0, hr_6_0_f1⟩ := hr_6_0
      have hr_6_0_f0 : 0 ≤ v1.toInt := hr_6_0_f0
      have hr_6_0_f1 : v1.toInt ≤ 60 := hr_6_0_f1
      subst er_6
      refine W.eq (g2 := F0 m 19 ls [.int 1]) rfl ?_
      refine lv_if_ne (tgt := 26) hx hb dX9_shuts_19 (by decide) (fun _ => ?_) (fun c_7 => absurd c_7 (by decide))
      refine lv_aload_n hx hb dX9_shuts_26 rfl (lv_at hl 0 rfl) ?_
      refine t_getr cf_1 hx hb hts hown hK hT h_a (k := 2) (P := fun q => τ q = 3) rfl (fun _ h9 => h9) fl_X9_23 (fun _ h9 => h9) dX9_shuts_27 (fun q_8 eq_8 hq_8 => ?_)
      refine t_getr cf_3 hx hb hts hown hK hT hq_8 (k := 0) (P := fun q => τ q = 8) rfl (fun _ h9 => h9) fl_X9_108 (fun _ h9 => h9) dX9_shuts_30 (fun q_9 eq_9 hq_9 => ?_)
      refine lv_aload_n hx hb dX9_shuts_33 rfl (lv_at hl 0 rfl) ?_
      refine t_getr cf_1 hx hb hts hown hK hT h_a (k := 10) (P := fun q => τ q = 7) rfl (fun _ h9 => h9) fl_X9_67 (fun _ h9 => h9) dX9_shuts_34 (fun q_10 eq_10 hq_10 => ?_)
      have w_11 : q_1 = q_10 := Option.some.inj (eq_1.symm.trans eq_10)
      subst w_11
      refine lv_iload_n hx hb dX9_shuts_37 rfl (lv_at hl 1 rfl) ?_
      refine t_callv (runV (As := [.ref q_1, .int v0]) (rest := []) ⟨hx, hb, hml, hown, hts⟩ (t_X5_followOne l D cy base τ G q_9 hq_9 q_1 hq_1 v0) sV_X9_112 hK (t_recv cf_8 hK hT hq_9) ⟨Nat.le_trans hZ hS.1, hT⟩ ⟨Nat.le_of_ble_eq_true rfl, Nat.le_of_ble_eq_true rfl⟩ rfl hl.1 rfl (Nat.le_of_ble_eq_true rfl) dX9_shuts_38 ⟨Nat.le_of_ble_eq_true rfl, Nat.le_of_ble_eq_true rfl⟩) hS (fun G_12 H locs hF_12 hr_12 hT hS => ?_)
      have hF := hF.tr hF_12 rfl
      refine lv_aload_n hx hb dX9_shuts_41 rfl (lv_at hl 0 rfl) ?_
      refine t_getr cf_1 hx hb hts hown hK hT h_a (k := 2) (P := fun q => τ q = 3) rfl (fun _ h9 => h9) fl_X9_23 (fun _ h9 => h9) dX9_shuts_42 (fun q_13 eq_13 hq_13 => ?_)
      have w_14 : q_8 = q_13 := Option.some.inj (eq_8.symm.trans ((hF.r h_a (by decide) rfl _).symm.trans eq_13))
      subst w_14
      refine t_getr cf_3 hx hb hts hown hK hT hq_8 (k := 0) (P := fun q => τ q = 8) rfl (fun _ h9 => h9) fl_X9_108 (fun _ h9 => h9) dX9_shuts_45 (fun q_15 eq_15 hq_15 => ?_)
      have w_16 : q_9 = q_15 := Option.some.inj (eq_9.symm.trans ((hF.r hq_8 (by decide) rfl _).symm.trans eq_15))
      subst w_16
      refine lv_iload_n hx hb dX9_shuts_48 rfl (lv_at hl 2 rfl) ?_
      refine pu_calll (runV (As := [.int v1]) (rest := []) ⟨hx, hb, hml, hown, hts⟩ (t_X5_partsOn l D cy base τ G_12 q_9 hq_9 v1) sV_X9_118 hK (t_recv cf_8 hK hT hq_9) ⟨Nat.le_trans hZ hS.1, hT⟩ ⟨Nat.le_of_ble_eq_true rfl, Nat.le_of_ble_eq_true rfl⟩ rfl hl.1 rfl (Nat.le_of_ble_eq_true rfl) dX9_shuts_49 ⟨Nat.le_of_ble_eq_true rfl, Nat.le_of_ble_eq_true rfl⟩) (fun r_17 hr_17 => ?_)
      exact ret_l hx hb hr hlocks ⟨⟨hS.1, hS.2.1⟩, G_12, hF, ⟨_, rfl, trivial⟩, hT⟩ hS.2.2 (Nat.le_of_ble_eq_true rfl) (Nat.le_of_ble_eq_true rfl) dX9_shuts_52
    · skip
      have er_6 := hr_6_1
      subst er_6
      refine W.eq (g2 := F0 m 19 ls [.int 0]) rfl ?_
      refine lv_if_ne (tgt := 26) hx hb dX9_shuts_19 (by decide) (fun c_18 => absurd rfl c_18) (fun _ => ?_)
      refine lv_ldc2 (v := (-2)) hx hb hown (hts _ kl_X9_106) dX9_shuts_22 ?_
      exact ret_l hx hb hr hlocks ⟨⟨hS.1, hS.2.1⟩, G, hF, ⟨_, rfl, trivial⟩, hT⟩ hS.2.2 (Nat.le_of_ble_eq_true rfl) (Nat.le_of_ble_eq_true rfl) dX9_shuts_25
  · skip
    have er_2 := hr_2_1
    subst er_2
    refine W.eq (g2 := F0 m 8 ls [.int 0]) rfl ?_
    refine lv_if_eq (tgt := 22) hx hb dX9_shuts_8 (by decide) (fun _ => ?_) (fun c_19 => absurd (by decide) c_19)
    refine lv_ldc2 (v := (-2)) hx hb hown (hts _ kl_X9_106) dX9_shuts_22 ?_
    exact ret_l hx hb hr hlocks ⟨⟨hS.1, hS.2.1⟩, G, hF, ⟨_, rfl, trivial⟩, hT⟩ hS.2.2 (Nat.le_of_ble_eq_true rfl) (Nat.le_of_ble_eq_true rfl) dX9_shuts_25
set_option maxHeartbeats 4000000 in
set_option maxRecDepth 100000 in
theorem t_X9_by (l : Launch) (D : va_G) (cy : Nat → ClassId) (base : Nat) (τ : Nat → Nat) (G : Gh) (a : Nat) (h_a : τ a = 1) (v0 : Int32) (v1 : Int32) : MM l yX9_by cX9_by 6 (some .long) 3 0 0 D cy [.ref a, .int v0, .int v1] (PT D cy base τ G) (QT D cy base τ G [32] (fun v g => ∃ r : Int64, v = some (.long r) ∧ (True))) (RA base) := by
  refine MM.of (by decide) (Nat.le_of_ble_eq_true rfl) ?_
  intro p e s m below meth c C hPT ls hl
  obtain ⟨hx, hb, hr, hml, hown, hts, hlocks, hK, hnm⟩ := C
  obtain ⟨hZ, hT⟩ := hPT
  have hS : va_S (RA base) s.heap s.heap [] := va_S.rf
  have hF : Fr τ [32] G G := Fr.rf
  have hl : lv_has ls 6 [(0, .ref a), (1, .int v0), (2, .int v1)] := hl
  refine lv_aload_n hx hb dX9_by_0 rfl (lv_at hl 0 rfl) ?_
  refine t_getr cf_1 hx hb hts hown hK hT h_a (k := 10) (P := fun q => τ q = 7) rfl (fun _ h9 => h9) fl_X9_67 (fun _ h9 => h9) dX9_by_1 (fun q_1 eq_1 hq_1 => ?_)
  refine lv_iload_n hx hb dX9_by_4 rfl (lv_at hl 1 rfl) ?_
  refine pu_calli (runV (As := [.int v0]) (rest := []) ⟨hx, hb, hml, hown, hts⟩ (t_X2_hasValley l D cy base τ G q_1 hq_1 v0) sV_X9_99 hK (t_recv cf_7 hK hT hq_1) ⟨Nat.le_trans hZ hS.1, hT⟩ ⟨Nat.le_of_ble_eq_true rfl, Nat.le_of_ble_eq_true rfl⟩ rfl hl.1 rfl (Nat.le_of_ble_eq_true rfl) dX9_by_5 ⟨Nat.le_of_ble_eq_true rfl, Nat.le_of_ble_eq_true rfl⟩) (fun r_2 hr_2 => ?_)
  have hr_2_c := hr_2
  rcases hr_2_c with hr_2_0 | hr_2_1
  · skip
    obtain ⟨er_2, hr_2_0_f0, hr_2_0_f1⟩ := hr_2_0
    have hr_2_0_f0 : 0 ≤ v0.toInt := hr_2_0_f0
    have hr_2_0_f1 : v0.toInt ≤ 5 := hr_2_0_f1
    subst er_2
    refine W.eq (g2 := F0 m 8 ls [.int 1]) rfl ?_
    refine lv_if_eq (tgt := 22) hx hb dX9_by_8 (by decide) (fun c_3 => absurd c_3 (by decide)) (fun _ => ?_)
    refine lv_aload_n hx hb dX9_by_11 rfl (lv_at hl 0 rfl) ?_
    refine t_getr cf_1 hx hb hts hown hK hT h_a (k := 10) (P := fun q => τ q = 7) rfl (fun _ h9 => h9) fl_X9_67 (fun _ h9 => h9) dX9_by_12 (fun q_4 eq_4 hq_4 => ?_)
    have w_5 : q_1 = q_4 := Option.some.inj (eq_1.symm.trans eq_4)
    subst w_5
    refine lv_iload_n hx hb dX9_by_15 rfl (lv_at hl 2 rfl) ?_
    refine pu_calli (runV (As := [.int v1]) (rest := []) ⟨hx, hb, hml, hown, hts⟩ (t_X2_hasDay l D cy base τ G q_1 hq_1 v1) sV_X9_122 hK (t_recv cf_7 hK hT hq_1) ⟨Nat.le_trans hZ hS.1, hT⟩ ⟨Nat.le_of_ble_eq_true rfl, Nat.le_of_ble_eq_true rfl⟩ rfl hl.1 rfl (Nat.le_of_ble_eq_true rfl) dX9_by_16 ⟨Nat.le_of_ble_eq_true rfl, Nat.le_of_ble_eq_true rfl⟩) (fun r_6 hr_6 => ?_)
    have hr_6_c := hr_6
    rcases hr_6_c with hr_6_0 | hr_6_1
    · skip
      obtain ⟨er_6, hr_6_0_f0, hr_6_0_f1⟩ := hr_6_0
      have hr_6_0_f0 : 1 ≤ v1.toInt := hr_6_0_f0
      have hr_6_0_f1 : v1.toInt ≤ 60 := hr_6_0_f1
      subst er_6
      refine W.eq (g2 := F0 m 19 ls [.int 1]) rfl ?_
      refine lv_if_ne (tgt := 26) hx hb dX9_by_19 (by decide) (fun _ => ?_) (fun c_7 => absurd c_7 (by decide))
      refine lv_aload_n hx hb dX9_by_26 rfl (lv_at hl 0 rfl) ?_
      refine t_getr cf_1 hx hb hts hown hK hT h_a (k := 2) (P := fun q => τ q = 3) rfl (fun _ h9 => h9) fl_X9_23 (fun _ h9 => h9) dX9_by_27 (fun q_8 eq_8 hq_8 => ?_)
      refine t_getr cf_3 hx hb hts hown hK hT hq_8 (k := 0) (P := fun q => τ q = 8) rfl (fun _ h9 => h9) fl_X9_108 (fun _ h9 => h9) dX9_by_30 (fun q_9 eq_9 hq_9 => ?_)
      refine lv_aload_n hx hb dX9_by_33 rfl (lv_at hl 0 rfl) ?_
      refine t_getr cf_1 hx hb hts hown hK hT h_a (k := 10) (P := fun q => τ q = 7) rfl (fun _ h9 => h9) fl_X9_67 (fun _ h9 => h9) dX9_by_34 (fun q_10 eq_10 hq_10 => ?_)
      have w_11 : q_1 = q_10 := Option.some.inj (eq_1.symm.trans eq_10)
      subst w_11
      refine lv_iload_n hx hb dX9_by_37 rfl (lv_at hl 1 rfl) ?_
      refine t_callv (runV (As := [.ref q_1, .int v0]) (rest := []) ⟨hx, hb, hml, hown, hts⟩ (t_X5_followOne l D cy base τ G q_9 hq_9 q_1 hq_1 v0) sV_X9_112 hK (t_recv cf_8 hK hT hq_9) ⟨Nat.le_trans hZ hS.1, hT⟩ ⟨Nat.le_of_ble_eq_true rfl, Nat.le_of_ble_eq_true rfl⟩ rfl hl.1 rfl (Nat.le_of_ble_eq_true rfl) dX9_by_38 ⟨Nat.le_of_ble_eq_true rfl, Nat.le_of_ble_eq_true rfl⟩) hS (fun G_12 H locs hF_12 hr_12 hT hS => ?_)
      have hF := hF.tr hF_12 rfl
      refine lv_lconst (v := 0) hx hb dX9_by_41 (by decide) ?_
      refine lv_lstore_n (lv' := [(3, .long 0), (0, .ref a), (1, .int v0), (2, .int v1)]) hx hb dX9_by_42 rfl hl (by decide) rfl (fun ls hl => ?_)
      refine lv_iconst (v := 1) hx hb dX9_by_43 (by decide) ?_
      refine lv_istore (lv' := [(5, .int 1), (3, .long 0), (0, .ref a), (1, .int v0), (2, .int v1)]) hx hb dX9_by_44 hl (by decide) rfl (fun ls hl => ?_)
      refine W.loop (σ := Int64 × Int32 × Gh) (fun w13 H locs ls => 0 ≤ w13.2.1.toInt ∧ w13.2.1.toInt ≤ 61 ∧ Fr τ [32] G w13.2.2 ∧ TY D cy base τ w13.2.2 H ∧ va_S (RA base) s.heap H locs ∧ lv_has ls 6 [(3, .long w13.1), (5, .int w13.2.1), (0, .ref a), (1, .int v0), (2, .int v1)]) (fun w13 => (61 - w13.2.1.toInt).toNat) ?_ ((0 : Int64), (1 : Int32), G_12) _ _ _ ⟨(by show 0 ≤ (1 : Int32).toInt; decide), (by show (1 : Int32).toInt ≤ 61; decide), hF, hT, hS, lv_sub hl [1, 0, 2, 3, 4] rfl⟩
      intro w13 H locs ls hI ih13
      obtain ⟨x13_3, x13_5, G_13⟩ := w13
      obtain ⟨i13_0, i13_1, hF, hT, hS, hl⟩ := hI
      have i13_0 : 0 ≤ x13_5.toInt := i13_0
      have i13_1 : x13_5.toInt ≤ 61 := i13_1
      have hF : Fr τ [32] G G_13 := hF
      have hT : TY D cy base τ G_13 H := hT
      have hS : va_S (RA base) s.heap H locs := hS
      have hl : lv_has ls 6 [(3, .long x13_3), (5, .int x13_5), (0, .ref a), (1, .int v0), (2, .int v1)] := hl
      refine lv_iload hx hb dX9_by_46 (lv_at hl 1 rfl) ?_
      refine lv_iload_n hx hb dX9_by_48 rfl (lv_at hl 4 rfl) ?_
      refine lv_icmp_gt (tgt := 73) hx hb dX9_by_49 (by decide) (fun c_14 => ?_) (fun c_14 => ?_)
      · skip
        have tc_14 : v1.toInt < x13_5.toInt := (fa_lt _ _).mp c_14
        refine lv_lload_n hx hb dX9_by_73 rfl (lv_at hl 0 rfl) ?_
        exact ret_l hx hb hr hlocks ⟨⟨hS.1, hS.2.1⟩, G_13, hF, ⟨_, rfl, trivial⟩, hT⟩ hS.2.2 (Nat.le_of_ble_eq_true rfl) (Nat.le_of_ble_eq_true rfl) dX9_by_74
      · skip
        have tc_14 : ¬ v1.toInt < x13_5.toInt := fun h => c_14 ((fa_lt _ _).mpr h)
        refine lv_lload_n hx hb dX9_by_52 rfl (lv_at hl 0 rfl) ?_
        refine lv_aload_n hx hb dX9_by_53 rfl (lv_at hl 2 rfl) ?_
        refine t_getr cf_1 hx hb hts hown hK hT h_a (k := 2) (P := fun q => τ q = 3) rfl (fun _ h9 => h9) fl_X9_23 (fun _ h9 => h9) dX9_by_54 (fun q_15 eq_15 hq_15 => ?_)
        have w_16 : q_8 = q_15 := Option.some.inj (eq_8.symm.trans ((hF.r h_a (by decide) rfl _).symm.trans eq_15))
        subst w_16
        refine t_getr cf_3 hx hb hts hown hK hT hq_8 (k := 0) (P := fun q => τ q = 8) rfl (fun _ h9 => h9) fl_X9_108 (fun _ h9 => h9) dX9_by_57 (fun q_17 eq_17 hq_17 => ?_)
        have w_18 : q_9 = q_17 := Option.some.inj (eq_9.symm.trans ((hF.r hq_8 (by decide) rfl _).symm.trans eq_17))
        subst w_18
        refine lv_iload hx hb dX9_by_60 (lv_at hl 1 rfl) ?_
        refine pu_calll (runV (As := [.int x13_5]) (rest := [.long x13_3]) ⟨hx, hb, hml, hown, hts⟩ (t_X5_partsOn l D cy base τ G_13 q_9 hq_9 x13_5) sV_X9_118 hK (t_recv cf_8 hK hT hq_9) ⟨Nat.le_trans hZ hS.1, hT⟩ ⟨Nat.le_of_ble_eq_true rfl, Nat.le_of_ble_eq_true rfl⟩ rfl hl.1 rfl (Nat.le_of_ble_eq_true rfl) dX9_by_62 ⟨Nat.le_of_ble_eq_true rfl, Nat.le_of_ble_eq_true rfl⟩) (fun r_19 hr_19 => ?_)
        refine lv_ladd hx hb dX9_by_65 ?_
        refine lv_topl (fun z_20 ez_20 => ?_)
        refine lv_lstore_n (lv' := [(3, .long z_20), (5, .int x13_5), (0, .ref a), (1, .int v0), (2, .int v1)]) hx hb dX9_by_66 rfl hl (by decide) rfl (fun ls hl => ?_)
        obtain ⟨z_21, ez_21⟩ : ∃ y : Int32, y = x13_5 + 1 := ⟨_, rfl⟩
        have tz_21 : z_21.toInt = x13_5.toInt + 1 := add_t ez_21 (show -2147483648 ≤ x13_5.toInt + 1 by omega) (show x13_5.toInt + 1 < 2147483648 by omega)
        refine lv_iinc (v := z_21) (lv' := [(5, .int z_21), (3, .long z_20), (0, .ref a), (1, .int v0), (2, .int v1)]) hx hb dX9_by_67 hl (k := 1) rfl (by rw [ez_21]; rfl) (by decide) rfl (fun ls hl => ?_)
        refine lv_goto (tgt := 46) hx hb dX9_by_70 (by decide) ?_
        exact ih13 (z_20, z_21, G_13) _ _ _ (by show (61 - z_21.toInt).toNat < (61 - x13_5.toInt).toNat; omega) ⟨(by show 0 ≤ z_21.toInt; omega), (by show z_21.toInt ≤ 61; omega), hF, hT, hS, lv_sub hl [1, 0, 2, 3, 4] rfl⟩
    · skip
      have er_6 := hr_6_1
      subst er_6
      refine W.eq (g2 := F0 m 19 ls [.int 0]) rfl ?_
      refine lv_if_ne (tgt := 26) hx hb dX9_by_19 (by decide) (fun c_22 => absurd rfl c_22) (fun _ => ?_)
      refine lv_ldc2 (v := (-2)) hx hb hown (hts _ kl_X9_106) dX9_by_22 ?_
      exact ret_l hx hb hr hlocks ⟨⟨hS.1, hS.2.1⟩, G, hF, ⟨_, rfl, trivial⟩, hT⟩ hS.2.2 (Nat.le_of_ble_eq_true rfl) (Nat.le_of_ble_eq_true rfl) dX9_by_25
  · skip
    have er_2 := hr_2_1
    subst er_2
    refine W.eq (g2 := F0 m 8 ls [.int 0]) rfl ?_
    refine lv_if_eq (tgt := 22) hx hb dX9_by_8 (by decide) (fun _ => ?_) (fun c_23 => absurd (by decide) c_23)
    refine lv_ldc2 (v := (-2)) hx hb hown (hts _ kl_X9_106) dX9_by_22 ?_
    exact ret_l hx hb hr hlocks ⟨⟨hS.1, hS.2.1⟩, G, hF, ⟨_, rfl, trivial⟩, hT⟩ hS.2.2 (Nat.le_of_ble_eq_true rfl) (Nat.le_of_ble_eq_true rfl) dX9_by_25
set_option maxHeartbeats 4000000 in
set_option maxRecDepth 100000 in
theorem t_X9_both (l : Launch) (D : va_G) (cy : Nat → ClassId) (base : Nat) (τ : Nat → Nat) (G : Gh) (a : Nat) (h_a : τ a = 1) (v0 : Int32) (v1 : Int32) (v2 : Int32) (v3 : Int32) : MM l yX9_both cX9_both 5 (some .long) 5 0 0 D cy [.ref a, .int v0, .int v1, .int v2, .int v3] (PT D cy base τ G) (QT D cy base τ G [33, 34] (fun v g => ∃ r : Int64, v = some (.long r) ∧ (True))) (RA base) := by
  refine MM.of (by decide) (Nat.le_of_ble_eq_true rfl) ?_
  intro p e s m below meth c C hPT ls hl
  obtain ⟨hx, hb, hr, hml, hown, hts, hlocks, hK, hnm⟩ := C
  obtain ⟨hZ, hT⟩ := hPT
  have hS : va_S (RA base) s.heap s.heap [] := va_S.rf
  have hF : Fr τ [33, 34] G G := Fr.rf
  have hl : lv_has ls 5 [(0, .ref a), (1, .int v0), (2, .int v1), (3, .int v2), (4, .int v3)] := hl
  refine lv_aload_n hx hb dX9_both_0 rfl (lv_at hl 0 rfl) ?_
  refine t_getr cf_1 hx hb hts hown hK hT h_a (k := 10) (P := fun q => τ q = 7) rfl (fun _ h9 => h9) fl_X9_67 (fun _ h9 => h9) dX9_both_1 (fun q_1 eq_1 hq_1 => ?_)
  refine lv_iload_n hx hb dX9_both_4 rfl (lv_at hl 1 rfl) ?_
  refine lv_iload_n hx hb dX9_both_5 rfl (lv_at hl 3 rfl) ?_
  refine pu_calli (runV (As := [.int v0, .int v2]) (rest := []) ⟨hx, hb, hml, hown, hts⟩ (t_X2_hasTwo l D cy base τ G q_1 hq_1 v0 v2) sV_X9_125 hK (t_recv cf_7 hK hT hq_1) ⟨Nat.le_trans hZ hS.1, hT⟩ ⟨Nat.le_of_ble_eq_true rfl, Nat.le_of_ble_eq_true rfl⟩ rfl hl.1 rfl (Nat.le_of_ble_eq_true rfl) dX9_both_6 ⟨Nat.le_of_ble_eq_true rfl, Nat.le_of_ble_eq_true rfl⟩) (fun r_2 hr_2 => ?_)
  have hr_2_c := hr_2
  rcases hr_2_c with hr_2_0 | hr_2_1
  · skip
    obtain ⟨er_2, hr_2_0_f0, hr_2_0_f1, hr_2_0_f2, hr_2_0_f3⟩ := hr_2_0
    have hr_2_0_f0 : 0 ≤ v0.toInt := hr_2_0_f0
    have hr_2_0_f1 : v0.toInt ≤ 5 := hr_2_0_f1
    have hr_2_0_f2 : 0 ≤ v2.toInt := hr_2_0_f2
    have hr_2_0_f3 : v2.toInt ≤ 5 := hr_2_0_f3
    subst er_2
    refine W.eq (g2 := F0 m 9 ls [.int 1]) rfl ?_
    refine lv_if_eq (tgt := 35) hx hb dX9_both_9 (by decide) (fun c_3 => absurd c_3 (by decide)) (fun _ => ?_)
    refine lv_aload_n hx hb dX9_both_12 rfl (lv_at hl 0 rfl) ?_
    refine t_getr cf_1 hx hb hts hown hK hT h_a (k := 10) (P := fun q => τ q = 7) rfl (fun _ h9 => h9) fl_X9_67 (fun _ h9 => h9) dX9_both_13 (fun q_4 eq_4 hq_4 => ?_)
    have w_5 : q_1 = q_4 := Option.some.inj (eq_1.symm.trans eq_4)
    subst w_5
    refine lv_iload_n hx hb dX9_both_16 rfl (lv_at hl 2 rfl) ?_
    refine pu_calli (runV (As := [.int v1]) (rest := []) ⟨hx, hb, hml, hown, hts⟩ (t_X2_hasDayOrNever l D cy base τ G q_1 hq_1 v1) sV_X9_103 hK (t_recv cf_7 hK hT hq_1) ⟨Nat.le_trans hZ hS.1, hT⟩ ⟨Nat.le_of_ble_eq_true rfl, Nat.le_of_ble_eq_true rfl⟩ rfl hl.1 rfl (Nat.le_of_ble_eq_true rfl) dX9_both_17 ⟨Nat.le_of_ble_eq_true rfl, Nat.le_of_ble_eq_true rfl⟩) (fun r_6 hr_6 => ?_)
    have hr_6_c := hr_6
    rcases hr_6_c with hr_6_0 | hr_6_1
    · skip
      obtain ⟨er_6, hr_6_0_f0, hr_6_0_f1⟩ := hr_6_0
      have hr_6_0_f0 : 0 ≤ v1.toInt := hr_6_0_f0
      have hr_6_0_f1 : v1.toInt ≤ 60 := hr_6_0_f1
      subst er_6
      refine W.eq (g2 := F0 m 20 ls [.int 1]) rfl ?_
      refine lv_if_eq (tgt := 35) hx hb dX9_both_20 (by decide) (fun c_7 => absurd c_7 (by decide)) (fun _ => ?_)
      refine lv_aload_n hx hb dX9_both_23 rfl (lv_at hl 0 rfl) ?_
      refine t_getr cf_1 hx hb hts hown hK hT h_a (k := 10) (P := fun q => τ q = 7) rfl (fun _ h9 => h9) fl_X9_67 (fun _ h9 => h9) dX9_both_24 (fun q_8 eq_8 hq_8 => ?_)
      have w_9 : q_1 = q_8 := Option.some.inj (eq_1.symm.trans eq_8)
      subst w_9
      refine lv_iload hx hb dX9_both_27 (lv_at hl 4 rfl) ?_
      refine pu_calli (runV (As := [.int v3]) (rest := []) ⟨hx, hb, hml, hown, hts⟩ (t_X2_hasDayOrNever l D cy base τ G q_1 hq_1 v3) sV_X9_103 hK (t_recv cf_7 hK hT hq_1) ⟨Nat.le_trans hZ hS.1, hT⟩ ⟨Nat.le_of_ble_eq_true rfl, Nat.le_of_ble_eq_true rfl⟩ rfl hl.1 rfl (Nat.le_of_ble_eq_true rfl) dX9_both_29 ⟨Nat.le_of_ble_eq_true rfl, Nat.le_of_ble_eq_true rfl⟩) (fun r_10 hr_10 => ?_)
      have hr_10_c := hr_10
      rcases hr_10_c with hr_10_0 | hr_10_1
      · skip
        obtain ⟨er_10, hr_10_0_f0, hr_10_0_f1⟩ := hr_10_0
        have hr_10_0_f0 : 0 ≤ v3.toInt := hr_10_0_f0
        have hr_10_0_f1 : v3.toInt ≤ 60 := hr_10_0_f1
        subst er_10
        refine W.eq (g2 := F0 m 32 ls [.int 1]) rfl ?_
        refine lv_if_ne (tgt := 39) hx hb dX9_both_32 (by decide) (fun _ => ?_) (fun c_11 => absurd c_11 (by decide))
        refine lv_aload_n hx hb dX9_both_39 rfl (lv_at hl 0 rfl) ?_
        refine t_getr cf_1 hx hb hts hown hK hT h_a (k := 2) (P := fun q => τ q = 3) rfl (fun _ h9 => h9) fl_X9_23 (fun _ h9 => h9) dX9_both_40 (fun q_12 eq_12 hq_12 => ?_)
        refine t_getr cf_3 hx hb hts hown hK hT hq_12 (k := 0) (P := fun q => τ q = 8) rfl (fun _ h9 => h9) fl_X9_108 (fun _ h9 => h9) dX9_both_43 (fun q_13 eq_13 hq_13 => ?_)
        refine lv_aload_n hx hb dX9_both_46 rfl (lv_at hl 0 rfl) ?_
        refine t_getr cf_1 hx hb hts hown hK hT h_a (k := 10) (P := fun q => τ q = 7) rfl (fun _ h9 => h9) fl_X9_67 (fun _ h9 => h9) dX9_both_47 (fun q_14 eq_14 hq_14 => ?_)
        have w_15 : q_1 = q_14 := Option.some.inj (eq_1.symm.trans eq_14)
        subst w_15
        refine lv_iload_n hx hb dX9_both_50 rfl (lv_at hl 1 rfl) ?_
        refine lv_iload_n hx hb dX9_both_51 rfl (lv_at hl 3 rfl) ?_
        refine t_callv (runV (As := [.ref q_1, .int v0, .int v2]) (rest := []) ⟨hx, hb, hml, hown, hts⟩ (t_X5_followTwo l D cy base τ G q_13 hq_13 q_1 hq_1 v0 v2) sV_X9_129 hK (t_recv cf_8 hK hT hq_13) ⟨Nat.le_trans hZ hS.1, hT⟩ ⟨Nat.le_of_ble_eq_true rfl, Nat.le_of_ble_eq_true rfl⟩ rfl hl.1 rfl (Nat.le_of_ble_eq_true rfl) dX9_both_52 ⟨Nat.le_of_ble_eq_true rfl, Nat.le_of_ble_eq_true rfl⟩) hS (fun G_16 H locs hF_16 hr_16 hT hS => ?_)
        have hF := hF.tr hF_16 rfl
        refine lv_aload_n hx hb dX9_both_55 rfl (lv_at hl 0 rfl) ?_
        refine t_getr cf_1 hx hb hts hown hK hT h_a (k := 2) (P := fun q => τ q = 3) rfl (fun _ h9 => h9) fl_X9_23 (fun _ h9 => h9) dX9_both_56 (fun q_17 eq_17 hq_17 => ?_)
        have w_18 : q_12 = q_17 := Option.some.inj (eq_12.symm.trans ((hF.r h_a (by decide) rfl _).symm.trans eq_17))
        subst w_18
        refine t_getr cf_3 hx hb hts hown hK hT hq_12 (k := 0) (P := fun q => τ q = 8) rfl (fun _ h9 => h9) fl_X9_108 (fun _ h9 => h9) dX9_both_59 (fun q_19 eq_19 hq_19 => ?_)
        have w_20 : q_13 = q_19 := Option.some.inj (eq_13.symm.trans ((hF.r hq_12 (by decide) rfl _).symm.trans eq_19))
        subst w_20
        refine lv_iload_n hx hb dX9_both_62 rfl (lv_at hl 2 rfl) ?_
        refine lv_iload hx hb dX9_both_63 (lv_at hl 4 rfl) ?_
        refine pu_calll (runV (As := [.int v1, .int v3]) (rest := []) ⟨hx, hb, hml, hown, hts⟩ (t_X5_partsOnTwo l D cy base τ G_16 q_13 hq_13 v1 v3) sV_X9_133 hK (t_recv cf_8 hK hT hq_13) ⟨Nat.le_trans hZ hS.1, hT⟩ ⟨Nat.le_of_ble_eq_true rfl, Nat.le_of_ble_eq_true rfl⟩ rfl hl.1 rfl (Nat.le_of_ble_eq_true rfl) dX9_both_65 ⟨Nat.le_of_ble_eq_true rfl, Nat.le_of_ble_eq_true rfl⟩) (fun r_21 hr_21 => ?_)
        exact ret_l hx hb hr hlocks ⟨⟨hS.1, hS.2.1⟩, G_16, hF, ⟨_, rfl, trivial⟩, hT⟩ hS.2.2 (Nat.le_of_ble_eq_true rfl) (Nat.le_of_ble_eq_true rfl) dX9_both_68
      · skip
        have er_10 := hr_10_1
        subst er_10
        refine W.eq (g2 := F0 m 32 ls [.int 0]) rfl ?_
        refine lv_if_ne (tgt := 39) hx hb dX9_both_32 (by decide) (fun c_22 => absurd rfl c_22) (fun _ => ?_)
        refine lv_ldc2 (v := (-2)) hx hb hown (hts _ kl_X9_106) dX9_both_35 ?_
        exact ret_l hx hb hr hlocks ⟨⟨hS.1, hS.2.1⟩, G, hF, ⟨_, rfl, trivial⟩, hT⟩ hS.2.2 (Nat.le_of_ble_eq_true rfl) (Nat.le_of_ble_eq_true rfl) dX9_both_38
    · skip
      have er_6 := hr_6_1
      subst er_6
      refine W.eq (g2 := F0 m 20 ls [.int 0]) rfl ?_
      refine lv_if_eq (tgt := 35) hx hb dX9_both_20 (by decide) (fun _ => ?_) (fun c_23 => absurd (by decide) c_23)
      refine lv_ldc2 (v := (-2)) hx hb hown (hts _ kl_X9_106) dX9_both_35 ?_
      exact ret_l hx hb hr hlocks ⟨⟨hS.1, hS.2.1⟩, G, hF, ⟨_, rfl, trivial⟩, hT⟩ hS.2.2 (Nat.le_of_ble_eq_true rfl) (Nat.le_of_ble_eq_true rfl) dX9_both_38
  · skip
    have er_2 := hr_2_1
    subst er_2
    refine W.eq (g2 := F0 m 9 ls [.int 0]) rfl ?_
    refine lv_if_eq (tgt := 35) hx hb dX9_both_9 (by decide) (fun _ => ?_) (fun c_24 => absurd (by decide) c_24)
    refine lv_ldc2 (v := (-2)) hx hb hown (hts _ kl_X9_106) dX9_both_35 ?_
    exact ret_l hx hb hr hlocks ⟨⟨hS.1, hS.2.1⟩, G, hF, ⟨_, rfl, trivial⟩, hT⟩ hS.2.2 (Nat.le_of_ble_eq_true rfl) (Nat.le_of_ble_eq_true rfl) dX9_both_38
set_option maxHeartbeats 4000000 in
set_option maxRecDepth 100000 in
theorem t_X9_together (l : Launch) (D : va_G) (cy : Nat → ClassId) (base : Nat) (τ : Nat → Nat) (G : Gh) (a : Nat) (h_a : τ a = 1) (v0 : Int32) (v1 : Int32) : MM l yX9_together cX9_together 6 (some .long) 8 0 0 D cy [.ref a, .int v0, .int v1] (PT D cy base τ G) (QT D cy base τ G [35] (fun v g => ∃ r : Int64, v = some (.long r) ∧ (True))) (RA base) := by
  refine MM.of (by decide) (Nat.le_of_ble_eq_true rfl) ?_
  intro p e s m below meth c C hPT ls hl
  obtain ⟨hx, hb, hr, hml, hown, hts, hlocks, hK, hnm⟩ := C
  obtain ⟨hZ, hT⟩ := hPT
  have hS : va_S (RA base) s.heap s.heap [] := va_S.rf
  have hF : Fr τ [35] G G := Fr.rf
  have hl : lv_has ls 6 [(0, .ref a), (1, .int v0), (2, .int v1)] := hl
  refine lv_aload_n hx hb dX9_together_0 rfl (lv_at hl 0 rfl) ?_
  refine t_getr cf_1 hx hb hts hown hK hT h_a (k := 10) (P := fun q => τ q = 7) rfl (fun _ h9 => h9) fl_X9_67 (fun _ h9 => h9) dX9_together_1 (fun q_1 eq_1 hq_1 => ?_)
  refine lv_iload_n hx hb dX9_together_4 rfl (lv_at hl 1 rfl) ?_
  refine pu_calli (runV (As := [.int v0]) (rest := []) ⟨hx, hb, hml, hown, hts⟩ (t_X2_hasDay l D cy base τ G q_1 hq_1 v0) sV_X9_122 hK (t_recv cf_7 hK hT hq_1) ⟨Nat.le_trans hZ hS.1, hT⟩ ⟨Nat.le_of_ble_eq_true rfl, Nat.le_of_ble_eq_true rfl⟩ rfl hl.1 rfl (Nat.le_of_ble_eq_true rfl) dX9_together_5 ⟨Nat.le_of_ble_eq_true rfl, Nat.le_of_ble_eq_true rfl⟩) (fun r_2 hr_2 => ?_)
  have hr_2_c := hr_2
  rcases hr_2_c with hr_2_0 | hr_2_1
  · skip
    obtain ⟨er_2, hr_2_0_f0, hr_2_0_f1⟩ := hr_2_0
    have hr_2_0_f0 : 1 ≤ v0.toInt := hr_2_0_f0
    have hr_2_0_f1 : v0.toInt ≤ 60 := hr_2_0_f1
    subst er_2
    refine W.eq (g2 := F0 m 8 ls [.int 1]) rfl ?_
    refine lv_if_eq (tgt := 26) hx hb dX9_together_8 (by decide) (fun c_3 => absurd c_3 (by decide)) (fun _ => ?_)
    refine lv_iload_n hx hb dX9_together_11 rfl (lv_at hl 2 rfl) ?_
    refine lv_if_lt (tgt := 26) hx hb dX9_together_12 (by decide) (fun c_4 => ?_) (fun c_4 => ?_)
    · skip
      have tc_4 : v1.toInt < 0 := (fa_lt _ _).mp c_4
      refine lv_ldc2 (v := (-2)) hx hb hown (hts _ kl_X9_106) dX9_together_26 ?_
      exact ret_l hx hb hr hlocks ⟨⟨hS.1, hS.2.1⟩, G, hF, ⟨_, rfl, trivial⟩, hT⟩ hS.2.2 (Nat.le_of_ble_eq_true rfl) (Nat.le_of_ble_eq_true rfl) dX9_together_29
    · skip
      have tc_4 : ¬ v1.toInt < 0 := fun h => c_4 ((fa_lt _ _).mpr h)
      refine lv_iload_n hx hb dX9_together_15 rfl (lv_at hl 2 rfl) ?_
      refine lv_aload_n hx hb dX9_together_16 rfl (lv_at hl 0 rfl) ?_
      refine t_getr cf_1 hx hb hts hown hK hT h_a (k := 10) (P := fun q => τ q = 7) rfl (fun _ h9 => h9) fl_X9_67 (fun _ h9 => h9) dX9_together_17 (fun q_5 eq_5 hq_5 => ?_)
      have w_6 : q_1 = q_5 := Option.some.inj (eq_1.symm.trans eq_5)
      subst w_6
      refine t_geti cf_7 hx hb hts hown hK hT hq_1 (k := 6) rfl fl_X9_137 (fun _ h9 => h9) dX9_together_20 (fun z_7 ez_7 rz_7 => ?_)
      have ez_7 : z_7 = G.1 q_1 6 := ez_7
      have rz_7 : 0 ≤ z_7.toInt ∧ z_7.toInt ≤ 6 := rz_7
      refine lv_icmp_le (tgt := 30) hx hb dX9_together_23 (by decide) (fun c_8 => ?_) (fun c_8 => ?_)
      · skip
        have tc_8 : v1.toInt ≤ z_7.toInt := (fa_le _ _).mp c_8
        refine lv_aload_n hx hb dX9_together_30 rfl (lv_at hl 0 rfl) ?_
        refine t_getr cf_1 hx hb hts hown hK hT h_a (k := 2) (P := fun q => τ q = 3) rfl (fun _ h9 => h9) fl_X9_23 (fun _ h9 => h9) dX9_together_31 (fun q_9 eq_9 hq_9 => ?_)
        refine t_getr cf_3 hx hb hts hown hK hT hq_9 (k := 0) (P := fun q => τ q = 8) rfl (fun _ h9 => h9) fl_X9_108 (fun _ h9 => h9) dX9_together_34 (fun q_10 eq_10 hq_10 => ?_)
        refine lv_aload_n hx hb dX9_together_37 rfl (lv_at hl 0 rfl) ?_
        refine t_getr cf_1 hx hb hts hown hK hT h_a (k := 10) (P := fun q => τ q = 7) rfl (fun _ h9 => h9) fl_X9_67 (fun _ h9 => h9) dX9_together_38 (fun q_11 eq_11 hq_11 => ?_)
        have w_12 : q_1 = q_11 := Option.some.inj (eq_1.symm.trans eq_11)
        subst w_12
        refine lv_iload_n hx hb dX9_together_41 rfl (lv_at hl 1 rfl) ?_
        refine t_callv (runV (As := [.ref q_1, .int v0]) (rest := []) ⟨hx, hb, hml, hown, hts⟩ (t_X5_followAll l D cy base τ G q_10 hq_10 q_1 hq_1 v0) sV_X9_140 hK (t_recv cf_8 hK hT hq_10) ⟨Nat.le_trans hZ hS.1, hT⟩ ⟨Nat.le_of_ble_eq_true rfl, Nat.le_of_ble_eq_true rfl⟩ rfl hl.1 rfl (Nat.le_of_ble_eq_true rfl) dX9_together_42 ⟨Nat.le_of_ble_eq_true rfl, Nat.le_of_ble_eq_true rfl⟩) hS (fun G_13 H locs hF_13 hr_13 hT hS => ?_)
        have hF := hF.tr hF_13 rfl
        refine lv_lconst (v := 0) hx hb dX9_together_45 (by decide) ?_
        refine lv_lstore_n (lv' := [(3, .long 0), (0, .ref a), (1, .int v0), (2, .int v1)]) hx hb dX9_together_46 rfl hl (by decide) rfl (fun ls hl => ?_)
        refine lv_iconst (v := 0) hx hb dX9_together_47 (by decide) ?_
        refine lv_istore (lv' := [(5, .int 0), (3, .long 0), (0, .ref a), (1, .int v0), (2, .int v1)]) hx hb dX9_together_48 hl (by decide) rfl (fun ls hl => ?_)
        refine W.loop (σ := Int64 × Int32 × Gh) (fun w14 H locs ls => 0 ≤ w14.2.1.toInt ∧ w14.2.1.toInt ≤ 64 ∧ Fr τ [35] G w14.2.2 ∧ TY D cy base τ w14.2.2 H ∧ va_S (RA base) s.heap H locs ∧ lv_has ls 6 [(3, .long w14.1), (5, .int w14.2.1), (0, .ref a), (1, .int v0), (2, .int v1)]) (fun w14 => (64 - w14.2.1.toInt).toNat) ?_ ((0 : Int64), (0 : Int32), G_13) _ _ _ ⟨(by show 0 ≤ (0 : Int32).toInt; decide), (by show (0 : Int32).toInt ≤ 64; decide), hF, hT, hS, lv_sub hl [1, 0, 2, 3, 4] rfl⟩
        intro w14 H locs ls hI ih14
        obtain ⟨x14_3, x14_5, G_14⟩ := w14
        obtain ⟨i14_0, i14_1, hF, hT, hS, hl⟩ := hI
        have i14_0 : 0 ≤ x14_5.toInt := i14_0
        have i14_1 : x14_5.toInt ≤ 64 := i14_1
        have hF : Fr τ [35] G G_14 := hF
        have hT : TY D cy base τ G_14 H := hT
        have hS : va_S (RA base) s.heap H locs := hS
        have hl : lv_has ls 6 [(3, .long x14_3), (5, .int x14_5), (0, .ref a), (1, .int v0), (2, .int v1)] := hl
        refine lv_iload hx hb dX9_together_50 (lv_at hl 1 rfl) ?_
        refine lv_iconst (v := 1) hx hb dX9_together_52 (by decide) ?_
        refine lv_aload_n hx hb dX9_together_53 rfl (lv_at hl 2 rfl) ?_
        refine t_getr cf_1 hx hb hts hown hK hT h_a (k := 10) (P := fun q => τ q = 7) rfl (fun _ h9 => h9) fl_X9_67 (fun _ h9 => h9) dX9_together_54 (fun q_15 eq_15 hq_15 => ?_)
        have w_16 : q_1 = q_15 := Option.some.inj (eq_1.symm.trans ((hF.r h_a (by decide) rfl _).symm.trans eq_15))
        subst w_16
        refine t_geti cf_7 hx hb hts hown hK hT hq_1 (k := 6) rfl fl_X9_137 (fun _ h9 => h9) dX9_together_57 (fun z_17 ez_17 rz_17 => ?_)
        have w_18 : z_7 = z_17 := ez_7.trans (ez_17.trans (hF.i hq_1 (by decide) rfl _)).symm
        subst w_18
        refine lv_ishl hx hb dX9_together_60 ?_
        refine lv_topi (fun z_19 ez_19 => ?_)
        have tz_19 : 1 ≤ z_19.toInt ∧ z_19.toInt ≤ 64 := shl6_t ez_19 (by omega) (by omega)
        refine lv_icmp_ge (tgt := 94) hx hb dX9_together_61 (by decide) (fun c_20 => ?_) (fun c_20 => ?_)
        · skip
          have tc_20 : z_19.toInt ≤ x14_5.toInt := (fa_le _ _).mp c_20
          refine lv_lload_n hx hb dX9_together_94 rfl (lv_at hl 0 rfl) ?_
          exact ret_l hx hb hr hlocks ⟨⟨hS.1, hS.2.1⟩, G_14, hF, ⟨_, rfl, trivial⟩, hT⟩ hS.2.2 (Nat.le_of_ble_eq_true rfl) (Nat.le_of_ble_eq_true rfl) dX9_together_95
        · skip
          have tc_20 : ¬ z_19.toInt ≤ x14_5.toInt := fun h => c_20 ((fa_le _ _).mpr h)
          refine lv_iload hx hb dX9_together_64 (lv_at hl 1 rfl) ?_
          refine pu_calli (runS (As := [.int x14_5]) (rest := []) ⟨hx, hb, hml, hown, hts⟩ (t_J6_bitCount_0f7a4 l D cy base τ G_14 x14_5) sS_X9_143 hK ⟨Nat.le_trans hZ hS.1, hT⟩ ⟨Nat.le_of_ble_eq_true rfl, Nat.le_of_ble_eq_true rfl⟩ rfl hl.1 rfl (Nat.le_of_ble_eq_true rfl) dX9_together_66 ⟨Nat.le_of_ble_eq_true rfl, Nat.le_of_ble_eq_true rfl⟩) (fun r_21 hr_21 => ?_)
          refine lv_iload_n hx hb dX9_together_69 rfl (lv_at hl 4 rfl) ?_
          refine lv_icmp_ne (tgt := 88) hx hb dX9_together_70 (by decide) (fun c_22 => ?_) (fun c_22 => ?_)
          · skip
            have tc_22 : ¬ r_21.toInt = v1.toInt := fun h => c_22 ((fa_eq _ _).mpr h)
            obtain ⟨z_23, ez_23⟩ : ∃ y : Int32, y = x14_5 + 1 := ⟨_, rfl⟩
            have tz_23 : z_23.toInt = x14_5.toInt + 1 := add_t ez_23 (show -2147483648 ≤ x14_5.toInt + 1 by omega) (show x14_5.toInt + 1 < 2147483648 by omega)
            refine lv_iinc (v := z_23) (lv' := [(5, .int z_23), (3, .long x14_3), (0, .ref a), (1, .int v0), (2, .int v1)]) hx hb dX9_together_88 hl (k := 1) rfl (by rw [ez_23]; rfl) (by decide) rfl (fun ls hl => ?_)
            refine lv_goto (tgt := 50) hx hb dX9_together_91 (by decide) ?_
            exact ih14 (x14_3, z_23, G_14) _ _ _ (by show (64 - z_23.toInt).toNat < (64 - x14_5.toInt).toNat; omega) ⟨(by show 0 ≤ z_23.toInt; omega), (by show z_23.toInt ≤ 64; omega), hF, hT, hS, lv_sub hl [1, 0, 2, 3, 4] rfl⟩
          · skip
            have tc_22 : r_21.toInt = v1.toInt := (fa_eq _ _).mp c_22
            refine lv_lload_n hx hb dX9_together_73 rfl (lv_at hl 0 rfl) ?_
            refine lv_aload_n hx hb dX9_together_74 rfl (lv_at hl 2 rfl) ?_
            refine t_getr cf_1 hx hb hts hown hK hT h_a (k := 2) (P := fun q => τ q = 3) rfl (fun _ h9 => h9) fl_X9_23 (fun _ h9 => h9) dX9_together_75 (fun q_24 eq_24 hq_24 => ?_)
            have w_25 : q_9 = q_24 := Option.some.inj (eq_9.symm.trans ((hF.r h_a (by decide) rfl _).symm.trans eq_24))
            subst w_25
            refine t_getr cf_3 hx hb hts hown hK hT hq_9 (k := 0) (P := fun q => τ q = 8) rfl (fun _ h9 => h9) fl_X9_108 (fun _ h9 => h9) dX9_together_78 (fun q_26 eq_26 hq_26 => ?_)
            have w_27 : q_10 = q_26 := Option.some.inj (eq_10.symm.trans ((hF.r hq_9 (by decide) rfl _).symm.trans eq_26))
            subst w_27
            refine lv_iload hx hb dX9_together_81 (lv_at hl 1 rfl) ?_
            refine pu_calll (runV (As := [.int x14_5]) (rest := [.long x14_3]) ⟨hx, hb, hml, hown, hts⟩ (t_X5_partsOfWay l D cy base τ G_14 q_10 hq_10 x14_5) sV_X9_149 hK (t_recv cf_8 hK hT hq_10) ⟨Nat.le_trans hZ hS.1, hT⟩ ⟨Nat.le_of_ble_eq_true rfl, Nat.le_of_ble_eq_true rfl⟩ rfl hl.1 rfl (Nat.le_of_ble_eq_true rfl) dX9_together_83 ⟨Nat.le_of_ble_eq_true rfl, Nat.le_of_ble_eq_true rfl⟩) (fun r_28 hr_28 => ?_)
            refine lv_ladd hx hb dX9_together_86 ?_
            refine lv_topl (fun z_29 ez_29 => ?_)
            refine lv_lstore_n (lv' := [(3, .long z_29), (5, .int x14_5), (0, .ref a), (1, .int v0), (2, .int v1)]) hx hb dX9_together_87 rfl hl (by decide) rfl (fun ls hl => ?_)
            obtain ⟨z_30, ez_30⟩ : ∃ y : Int32, y = x14_5 + 1 := ⟨_, rfl⟩
            have tz_30 : z_30.toInt = x14_5.toInt + 1 := add_t ez_30 (show -2147483648 ≤ x14_5.toInt + 1 by omega) (show x14_5.toInt + 1 < 2147483648 by omega)
            refine lv_iinc (v := z_30) (lv' := [(5, .int z_30), (3, .long z_29), (0, .ref a), (1, .int v0), (2, .int v1)]) hx hb dX9_together_88 hl (k := 1) rfl (by rw [ez_30]; rfl) (by decide) rfl (fun ls hl => ?_)
            refine lv_goto (tgt := 50) hx hb dX9_together_91 (by decide) ?_
            exact ih14 (z_29, z_30, G_14) _ _ _ (by show (64 - z_30.toInt).toNat < (64 - x14_5.toInt).toNat; omega) ⟨(by show 0 ≤ z_30.toInt; omega), (by show z_30.toInt ≤ 64; omega), hF, hT, hS, lv_sub hl [1, 0, 2, 3, 4] rfl⟩
      · skip
        have tc_8 : ¬ v1.toInt ≤ z_7.toInt := fun h => c_8 ((fa_le _ _).mpr h)
        have mc_8 : v1.toInt ≤ 2147483647 := max_t v1
        refine lv_ldc2 (v := (-2)) hx hb hown (hts _ kl_X9_106) dX9_together_26 ?_
        exact ret_l hx hb hr hlocks ⟨⟨hS.1, hS.2.1⟩, G, hF, ⟨_, rfl, trivial⟩, hT⟩ hS.2.2 (Nat.le_of_ble_eq_true rfl) (Nat.le_of_ble_eq_true rfl) dX9_together_29
  · skip
    have er_2 := hr_2_1
    subst er_2
    refine W.eq (g2 := F0 m 8 ls [.int 0]) rfl ?_
    refine lv_if_eq (tgt := 26) hx hb dX9_together_8 (by decide) (fun _ => ?_) (fun c_31 => absurd (by decide) c_31)
    refine lv_ldc2 (v := (-2)) hx hb hown (hts _ kl_X9_106) dX9_together_26 ?_
    exact ret_l hx hb hr hlocks ⟨⟨hS.1, hS.2.1⟩, G, hF, ⟨_, rfl, trivial⟩, hT⟩ hS.2.2 (Nat.le_of_ble_eq_true rfl) (Nat.le_of_ble_eq_true rfl) dX9_together_29
set_option maxHeartbeats 4000000 in
set_option maxRecDepth 100000 in
theorem t_X9_set (l : Launch) (D : va_G) (cy : Nat → ClassId) (base : Nat) (τ : Nat → Nat) (G : Gh) (a : Nat) (h_a : τ a = 1) (v0 : Int32) (v1 : Int32) : MM l yX9_set cX9_set 3 (some .long) 8 0 0 D cy [.ref a, .int v0, .int v1] (PT D cy base τ G) (QT D cy base τ G [35] (fun v g => ∃ r : Int64, v = some (.long r) ∧ (True))) (RA base) := by
  refine MM.of (by decide) (Nat.le_of_ble_eq_true rfl) ?_
  intro p e s m below meth c C hPT ls hl
  obtain ⟨hx, hb, hr, hml, hown, hts, hlocks, hK, hnm⟩ := C
  obtain ⟨hZ, hT⟩ := hPT
  have hS : va_S (RA base) s.heap s.heap [] := va_S.rf
  have hF : Fr τ [35] G G := Fr.rf
  have hl : lv_has ls 3 [(0, .ref a), (1, .int v0), (2, .int v1)] := hl
  refine lv_aload_n hx hb dX9_set_0 rfl (lv_at hl 0 rfl) ?_
  refine t_getr cf_1 hx hb hts hown hK hT h_a (k := 10) (P := fun q => τ q = 7) rfl (fun _ h9 => h9) fl_X9_67 (fun _ h9 => h9) dX9_set_1 (fun q_1 eq_1 hq_1 => ?_)
  refine lv_iload_n hx hb dX9_set_4 rfl (lv_at hl 1 rfl) ?_
  refine pu_calli (runV (As := [.int v0]) (rest := []) ⟨hx, hb, hml, hown, hts⟩ (t_X2_hasDay l D cy base τ G q_1 hq_1 v0) sV_X9_122 hK (t_recv cf_7 hK hT hq_1) ⟨Nat.le_trans hZ hS.1, hT⟩ ⟨Nat.le_of_ble_eq_true rfl, Nat.le_of_ble_eq_true rfl⟩ rfl hl.1 rfl (Nat.le_of_ble_eq_true rfl) dX9_set_5 ⟨Nat.le_of_ble_eq_true rfl, Nat.le_of_ble_eq_true rfl⟩) (fun r_2 hr_2 => ?_)
  have hr_2_c := hr_2
  rcases hr_2_c with hr_2_0 | hr_2_1
  · skip
    obtain ⟨er_2, hr_2_0_f0, hr_2_0_f1⟩ := hr_2_0
    have hr_2_0_f0 : 1 ≤ v0.toInt := hr_2_0_f0
    have hr_2_0_f1 : v0.toInt ≤ 60 := hr_2_0_f1
    subst er_2
    refine W.eq (g2 := F0 m 8 ls [.int 1]) rfl ?_
    refine lv_if_eq (tgt := 22) hx hb dX9_set_8 (by decide) (fun c_3 => absurd c_3 (by decide)) (fun _ => ?_)
    refine lv_aload_n hx hb dX9_set_11 rfl (lv_at hl 0 rfl) ?_
    refine t_getr cf_1 hx hb hts hown hK hT h_a (k := 10) (P := fun q => τ q = 7) rfl (fun _ h9 => h9) fl_X9_67 (fun _ h9 => h9) dX9_set_12 (fun q_4 eq_4 hq_4 => ?_)
    have w_5 : q_1 = q_4 := Option.some.inj (eq_1.symm.trans eq_4)
    subst w_5
    refine lv_iload_n hx hb dX9_set_15 rfl (lv_at hl 2 rfl) ?_
    refine pu_calli (runV (As := [.int v1]) (rest := []) ⟨hx, hb, hml, hown, hts⟩ (t_X2_hasBits l D cy base τ G q_1 hq_1 v1) sV_X9_152 hK (t_recv cf_7 hK hT hq_1) ⟨Nat.le_trans hZ hS.1, hT⟩ ⟨Nat.le_of_ble_eq_true rfl, Nat.le_of_ble_eq_true rfl⟩ rfl hl.1 rfl (Nat.le_of_ble_eq_true rfl) dX9_set_16 ⟨Nat.le_of_ble_eq_true rfl, Nat.le_of_ble_eq_true rfl⟩) (fun r_6 hr_6 => ?_)
    have hr_6_c := hr_6
    rcases hr_6_c with hr_6_0 | hr_6_1
    · skip
      obtain ⟨er_6, hr_6_0_f0, hr_6_0_f1⟩ := hr_6_0
      have hr_6_0_f0 : 0 ≤ v1.toInt := hr_6_0_f0
      have hr_6_0_f1 : v1.toInt ≤ 63 := hr_6_0_f1
      subst er_6
      refine W.eq (g2 := F0 m 19 ls [.int 1]) rfl ?_
      refine lv_if_ne (tgt := 26) hx hb dX9_set_19 (by decide) (fun _ => ?_) (fun c_7 => absurd c_7 (by decide))
      refine lv_aload_n hx hb dX9_set_26 rfl (lv_at hl 0 rfl) ?_
      refine t_getr cf_1 hx hb hts hown hK hT h_a (k := 2) (P := fun q => τ q = 3) rfl (fun _ h9 => h9) fl_X9_23 (fun _ h9 => h9) dX9_set_27 (fun q_8 eq_8 hq_8 => ?_)
      refine t_getr cf_3 hx hb hts hown hK hT hq_8 (k := 0) (P := fun q => τ q = 8) rfl (fun _ h9 => h9) fl_X9_108 (fun _ h9 => h9) dX9_set_30 (fun q_9 eq_9 hq_9 => ?_)
      refine lv_aload_n hx hb dX9_set_33 rfl (lv_at hl 0 rfl) ?_
      refine t_getr cf_1 hx hb hts hown hK hT h_a (k := 10) (P := fun q => τ q = 7) rfl (fun _ h9 => h9) fl_X9_67 (fun _ h9 => h9) dX9_set_34 (fun q_10 eq_10 hq_10 => ?_)
      have w_11 : q_1 = q_10 := Option.some.inj (eq_1.symm.trans eq_10)
      subst w_11
      refine lv_iload_n hx hb dX9_set_37 rfl (lv_at hl 1 rfl) ?_
      refine t_callv (runV (As := [.ref q_1, .int v0]) (rest := []) ⟨hx, hb, hml, hown, hts⟩ (t_X5_followAll l D cy base τ G q_9 hq_9 q_1 hq_1 v0) sV_X9_140 hK (t_recv cf_8 hK hT hq_9) ⟨Nat.le_trans hZ hS.1, hT⟩ ⟨Nat.le_of_ble_eq_true rfl, Nat.le_of_ble_eq_true rfl⟩ rfl hl.1 rfl (Nat.le_of_ble_eq_true rfl) dX9_set_38 ⟨Nat.le_of_ble_eq_true rfl, Nat.le_of_ble_eq_true rfl⟩) hS (fun G_12 H locs hF_12 hr_12 hT hS => ?_)
      have hF := hF.tr hF_12 rfl
      refine lv_aload_n hx hb dX9_set_41 rfl (lv_at hl 0 rfl) ?_
      refine t_getr cf_1 hx hb hts hown hK hT h_a (k := 2) (P := fun q => τ q = 3) rfl (fun _ h9 => h9) fl_X9_23 (fun _ h9 => h9) dX9_set_42 (fun q_13 eq_13 hq_13 => ?_)
      have w_14 : q_8 = q_13 := Option.some.inj (eq_8.symm.trans ((hF.r h_a (by decide) rfl _).symm.trans eq_13))
      subst w_14
      refine t_getr cf_3 hx hb hts hown hK hT hq_8 (k := 0) (P := fun q => τ q = 8) rfl (fun _ h9 => h9) fl_X9_108 (fun _ h9 => h9) dX9_set_45 (fun q_15 eq_15 hq_15 => ?_)
      have w_16 : q_9 = q_15 := Option.some.inj (eq_9.symm.trans ((hF.r hq_8 (by decide) rfl _).symm.trans eq_15))
      subst w_16
      refine lv_iload_n hx hb dX9_set_48 rfl (lv_at hl 2 rfl) ?_
      refine pu_calll (runV (As := [.int v1]) (rest := []) ⟨hx, hb, hml, hown, hts⟩ (t_X5_partsOfWay l D cy base τ G_12 q_9 hq_9 v1) sV_X9_149 hK (t_recv cf_8 hK hT hq_9) ⟨Nat.le_trans hZ hS.1, hT⟩ ⟨Nat.le_of_ble_eq_true rfl, Nat.le_of_ble_eq_true rfl⟩ rfl hl.1 rfl (Nat.le_of_ble_eq_true rfl) dX9_set_49 ⟨Nat.le_of_ble_eq_true rfl, Nat.le_of_ble_eq_true rfl⟩) (fun r_17 hr_17 => ?_)
      exact ret_l hx hb hr hlocks ⟨⟨hS.1, hS.2.1⟩, G_12, hF, ⟨_, rfl, trivial⟩, hT⟩ hS.2.2 (Nat.le_of_ble_eq_true rfl) (Nat.le_of_ble_eq_true rfl) dX9_set_52
    · skip
      have er_6 := hr_6_1
      subst er_6
      refine W.eq (g2 := F0 m 19 ls [.int 0]) rfl ?_
      refine lv_if_ne (tgt := 26) hx hb dX9_set_19 (by decide) (fun c_18 => absurd rfl c_18) (fun _ => ?_)
      refine lv_ldc2 (v := (-2)) hx hb hown (hts _ kl_X9_106) dX9_set_22 ?_
      exact ret_l hx hb hr hlocks ⟨⟨hS.1, hS.2.1⟩, G, hF, ⟨_, rfl, trivial⟩, hT⟩ hS.2.2 (Nat.le_of_ble_eq_true rfl) (Nat.le_of_ble_eq_true rfl) dX9_set_25
  · skip
    have er_2 := hr_2_1
    subst er_2
    refine W.eq (g2 := F0 m 8 ls [.int 0]) rfl ?_
    refine lv_if_eq (tgt := 22) hx hb dX9_set_8 (by decide) (fun _ => ?_) (fun c_19 => absurd (by decide) c_19)
    refine lv_ldc2 (v := (-2)) hx hb hown (hts _ kl_X9_106) dX9_set_22 ?_
    exact ret_l hx hb hr hlocks ⟨⟨hS.1, hS.2.1⟩, G, hF, ⟨_, rfl, trivial⟩, hT⟩ hS.2.2 (Nat.le_of_ble_eq_true rfl) (Nat.le_of_ble_eq_true rfl) dX9_set_25
set_option maxHeartbeats 4000000 in
set_option maxRecDepth 100000 in
theorem t_X9_when (l : Launch) (D : va_G) (cy : Nat → ClassId) (base : Nat) (τ : Nat → Nat) (G : Gh) (a : Nat) (h_a : τ a = 1) (v0 : Int32) (v1 : Int32) : MM l yX9_when cX9_when 6 (some .int) 3 0 0 D cy [.ref a, .int v0, .int v1] (PT D cy base τ G) (QT D cy base τ G [32] (fun v g => ∃ r : Int32, v = some (.int r) ∧ (True))) (RA base) := by
  refine MM.of (by decide) (Nat.le_of_ble_eq_true rfl) ?_
  intro p e s m below meth c C hPT ls hl
  obtain ⟨hx, hb, hr, hml, hown, hts, hlocks, hK, hnm⟩ := C
  obtain ⟨hZ, hT⟩ := hPT
  have hS : va_S (RA base) s.heap s.heap [] := va_S.rf
  have hF : Fr τ [32] G G := Fr.rf
  have hl : lv_has ls 6 [(0, .ref a), (1, .int v0), (2, .int v1)] := hl
  refine lv_aload_n hx hb dX9_when_0 rfl (lv_at hl 0 rfl) ?_
  refine t_getr cf_1 hx hb hts hown hK hT h_a (k := 10) (P := fun q => τ q = 7) rfl (fun _ h9 => h9) fl_X9_67 (fun _ h9 => h9) dX9_when_1 (fun q_1 eq_1 hq_1 => ?_)
  refine lv_iload_n hx hb dX9_when_4 rfl (lv_at hl 1 rfl) ?_
  refine pu_calli (runV (As := [.int v0]) (rest := []) ⟨hx, hb, hml, hown, hts⟩ (t_X2_hasValley l D cy base τ G q_1 hq_1 v0) sV_X9_99 hK (t_recv cf_7 hK hT hq_1) ⟨Nat.le_trans hZ hS.1, hT⟩ ⟨Nat.le_of_ble_eq_true rfl, Nat.le_of_ble_eq_true rfl⟩ rfl hl.1 rfl (Nat.le_of_ble_eq_true rfl) dX9_when_5 ⟨Nat.le_of_ble_eq_true rfl, Nat.le_of_ble_eq_true rfl⟩) (fun r_2 hr_2 => ?_)
  have hr_2_c := hr_2
  rcases hr_2_c with hr_2_0 | hr_2_1
  · skip
    obtain ⟨er_2, hr_2_0_f0, hr_2_0_f1⟩ := hr_2_0
    have hr_2_0_f0 : 0 ≤ v0.toInt := hr_2_0_f0
    have hr_2_0_f1 : v0.toInt ≤ 5 := hr_2_0_f1
    subst er_2
    refine W.eq (g2 := F0 m 8 ls [.int 1]) rfl ?_
    refine lv_if_eq (tgt := 23) hx hb dX9_when_8 (by decide) (fun c_3 => absurd c_3 (by decide)) (fun _ => ?_)
    refine lv_iload_n hx hb dX9_when_11 rfl (lv_at hl 2 rfl) ?_
    refine lv_iconst (v := 1) hx hb dX9_when_12 (by decide) ?_
    refine lv_icmp_lt (tgt := 23) hx hb dX9_when_13 (by decide) (fun c_4 => ?_) (fun c_4 => ?_)
    · skip
      have tc_4 : v1.toInt < 1 := (fa_lt _ _).mp c_4
      refine lv_bipush (v := (-2)) hx hb dX9_when_23 (by decide) ?_
      exact ret_i hx hb hr hlocks ⟨⟨hS.1, hS.2.1⟩, G, hF, ⟨_, rfl, trivial⟩, hT⟩ hS.2.2 (Nat.le_of_ble_eq_true rfl) (Nat.le_of_ble_eq_true rfl) dX9_when_25
    · skip
      have tc_4 : ¬ v1.toInt < 1 := fun h => c_4 ((fa_lt _ _).mpr h)
      refine lv_iload_n hx hb dX9_when_16 rfl (lv_at hl 2 rfl) ?_
      refine lv_sipush (v := 1000) hx hb dX9_when_17 (by decide) ?_
      refine lv_icmp_le (tgt := 26) hx hb dX9_when_20 (by decide) (fun c_5 => ?_) (fun c_5 => ?_)
      · skip
        have tc_5 : v1.toInt ≤ 1000 := (fa_le _ _).mp c_5
        refine lv_aload_n hx hb dX9_when_26 rfl (lv_at hl 0 rfl) ?_
        refine t_getr cf_1 hx hb hts hown hK hT h_a (k := 2) (P := fun q => τ q = 3) rfl (fun _ h9 => h9) fl_X9_23 (fun _ h9 => h9) dX9_when_27 (fun q_6 eq_6 hq_6 => ?_)
        refine t_getr cf_3 hx hb hts hown hK hT hq_6 (k := 0) (P := fun q => τ q = 8) rfl (fun _ h9 => h9) fl_X9_108 (fun _ h9 => h9) dX9_when_30 (fun q_7 eq_7 hq_7 => ?_)
        refine lv_aload_n hx hb dX9_when_33 rfl (lv_at hl 0 rfl) ?_
        refine t_getr cf_1 hx hb hts hown hK hT h_a (k := 10) (P := fun q => τ q = 7) rfl (fun _ h9 => h9) fl_X9_67 (fun _ h9 => h9) dX9_when_34 (fun q_8 eq_8 hq_8 => ?_)
        have w_9 : q_1 = q_8 := Option.some.inj (eq_1.symm.trans eq_8)
        subst w_9
        refine lv_iload_n hx hb dX9_when_37 rfl (lv_at hl 1 rfl) ?_
        refine t_callv (runV (As := [.ref q_1, .int v0]) (rest := []) ⟨hx, hb, hml, hown, hts⟩ (t_X5_followOne l D cy base τ G q_7 hq_7 q_1 hq_1 v0) sV_X9_112 hK (t_recv cf_8 hK hT hq_7) ⟨Nat.le_trans hZ hS.1, hT⟩ ⟨Nat.le_of_ble_eq_true rfl, Nat.le_of_ble_eq_true rfl⟩ rfl hl.1 rfl (Nat.le_of_ble_eq_true rfl) dX9_when_38 ⟨Nat.le_of_ble_eq_true rfl, Nat.le_of_ble_eq_true rfl⟩) hS (fun G_10 H locs hF_10 hr_10 hT hS => ?_)
        have hF := hF.tr hF_10 rfl
        refine lv_lconst (v := 0) hx hb dX9_when_41 (by decide) ?_
        refine lv_lstore_n (lv' := [(3, .long 0), (0, .ref a), (1, .int v0), (2, .int v1)]) hx hb dX9_when_42 rfl hl (by decide) rfl (fun ls hl => ?_)
        refine lv_iconst (v := 1) hx hb dX9_when_43 (by decide) ?_
        refine lv_istore (lv' := [(5, .int 1), (3, .long 0), (0, .ref a), (1, .int v0), (2, .int v1)]) hx hb dX9_when_44 hl (by decide) rfl (fun ls hl => ?_)
        refine W.loop (σ := Int64 × Int32 × Gh) (fun w11 H locs ls => 0 ≤ w11.2.1.toInt ∧ w11.2.1.toInt ≤ 61 ∧ Fr τ [32] G w11.2.2 ∧ TY D cy base τ w11.2.2 H ∧ va_S (RA base) s.heap H locs ∧ lv_has ls 6 [(3, .long w11.1), (5, .int w11.2.1), (0, .ref a), (1, .int v0), (2, .int v1)]) (fun w11 => (61 - w11.2.1.toInt).toNat) ?_ ((0 : Int64), (1 : Int32), G_10) _ _ _ ⟨(by show 0 ≤ (1 : Int32).toInt; decide), (by show (1 : Int32).toInt ≤ 61; decide), hF, hT, hS, lv_sub hl [1, 0, 2, 3, 4] rfl⟩
        intro w11 H locs ls hI ih11
        obtain ⟨x11_3, x11_5, G_11⟩ := w11
        obtain ⟨i11_0, i11_1, hF, hT, hS, hl⟩ := hI
        have i11_0 : 0 ≤ x11_5.toInt := i11_0
        have i11_1 : x11_5.toInt ≤ 61 := i11_1
        have hF : Fr τ [32] G G_11 := hF
        have hT : TY D cy base τ G_11 H := hT
        have hS : va_S (RA base) s.heap H locs := hS
        have hl : lv_has ls 6 [(3, .long x11_3), (5, .int x11_5), (0, .ref a), (1, .int v0), (2, .int v1)] := hl
        refine lv_iload hx hb dX9_when_46 (lv_at hl 1 rfl) ?_
        refine lv_aload_n hx hb dX9_when_48 rfl (lv_at hl 2 rfl) ?_
        refine t_getr cf_1 hx hb hts hown hK hT h_a (k := 10) (P := fun q => τ q = 7) rfl (fun _ h9 => h9) fl_X9_67 (fun _ h9 => h9) dX9_when_49 (fun q_12 eq_12 hq_12 => ?_)
        have w_13 : q_1 = q_12 := Option.some.inj (eq_1.symm.trans ((hF.r h_a (by decide) rfl _).symm.trans eq_12))
        subst w_13
        refine t_geti cf_7 hx hb hts hown hK hT hq_1 (k := 1) rfl fl_X9_155 (fun _ h9 => h9) dX9_when_52 (fun z_14 ez_14 rz_14 => ?_)
        have ez_14 : z_14 = G_11.1 q_1 1 := ez_14
        have rz_14 : 0 ≤ z_14.toInt ∧ z_14.toInt ≤ 60 := rz_14
        have ez_14 : z_14 = G.1 q_1 1 := ez_14.trans (hF.i hq_1 (by decide) rfl _)
        refine lv_icmp_gt (tgt := 93) hx hb dX9_when_55 (by decide) (fun c_15 => ?_) (fun c_15 => ?_)
        · skip
          have tc_15 : z_14.toInt < x11_5.toInt := (fa_lt _ _).mp c_15
          refine lv_iconst (v := (-1)) hx hb dX9_when_93 (by decide) ?_
          exact ret_i hx hb hr hlocks ⟨⟨hS.1, hS.2.1⟩, G_11, hF, ⟨_, rfl, trivial⟩, hT⟩ hS.2.2 (Nat.le_of_ble_eq_true rfl) (Nat.le_of_ble_eq_true rfl) dX9_when_94
        · skip
          have tc_15 : ¬ z_14.toInt < x11_5.toInt := fun h => c_15 ((fa_lt _ _).mpr h)
          refine lv_lload_n hx hb dX9_when_58 rfl (lv_at hl 0 rfl) ?_
          refine lv_aload_n hx hb dX9_when_59 rfl (lv_at hl 2 rfl) ?_
          refine t_getr cf_1 hx hb hts hown hK hT h_a (k := 2) (P := fun q => τ q = 3) rfl (fun _ h9 => h9) fl_X9_23 (fun _ h9 => h9) dX9_when_60 (fun q_16 eq_16 hq_16 => ?_)
          have w_17 : q_6 = q_16 := Option.some.inj (eq_6.symm.trans ((hF.r h_a (by decide) rfl _).symm.trans eq_16))
          subst w_17
          refine t_getr cf_3 hx hb hts hown hK hT hq_6 (k := 0) (P := fun q => τ q = 8) rfl (fun _ h9 => h9) fl_X9_108 (fun _ h9 => h9) dX9_when_63 (fun q_18 eq_18 hq_18 => ?_)
          have w_19 : q_7 = q_18 := Option.some.inj (eq_7.symm.trans ((hF.r hq_6 (by decide) rfl _).symm.trans eq_18))
          subst w_19
          refine lv_iload hx hb dX9_when_66 (lv_at hl 1 rfl) ?_
          refine pu_calll (runV (As := [.int x11_5]) (rest := [.long x11_3]) ⟨hx, hb, hml, hown, hts⟩ (t_X5_partsOn l D cy base τ G_11 q_7 hq_7 x11_5) sV_X9_118 hK (t_recv cf_8 hK hT hq_7) ⟨Nat.le_trans hZ hS.1, hT⟩ ⟨Nat.le_of_ble_eq_true rfl, Nat.le_of_ble_eq_true rfl⟩ rfl hl.1 rfl (Nat.le_of_ble_eq_true rfl) dX9_when_68 ⟨Nat.le_of_ble_eq_true rfl, Nat.le_of_ble_eq_true rfl⟩) (fun r_20 hr_20 => ?_)
          refine lv_ladd hx hb dX9_when_71 ?_
          refine lv_topl (fun z_21 ez_21 => ?_)
          refine lv_lstore_n (lv' := [(3, .long z_21), (5, .int x11_5), (0, .ref a), (1, .int v0), (2, .int v1)]) hx hb dX9_when_72 rfl hl (by decide) rfl (fun ls hl => ?_)
          refine lv_lload_n hx hb dX9_when_73 rfl (lv_at hl 0 rfl) ?_
          refine lv_iload_n hx hb dX9_when_74 rfl (lv_at hl 4 rfl) ?_
          refine lv_i2l hx hb dX9_when_75 rfl ?_
          refine lv_topl (fun z_22 ez_22 => ?_)
          have tz_22 : z_22.toInt = v1.toInt := by rw [ez_22]; exact wide_t v1
          refine lv_ldc2 (v := 1000000000) hx hb hown (hts _ kl_X9_158) dX9_when_76 ?_
          refine lv_lmul hx hb dX9_when_79 ?_
          refine lv_topl (fun z_23 ez_23 => ?_)
          have tz_23 : z_23.toInt = z_22.toInt * 1000000000 := mul_t64 ez_23 (show -9223372036854775808 ≤ z_22.toInt * 1000000000 by omega) (show z_22.toInt * 1000000000 < 9223372036854775808 by omega)
          refine W.lcmp hx hb dX9_when_80 ?_
          refine lv_topi (fun z_24 ez_24 => ?_)
          have tz_24 : (z_24.toInt < 0 ↔ z_21.toInt < z_23.toInt) ∧ (0 < z_24.toInt ↔ z_23.toInt < z_21.toInt) ∧ -1 ≤ z_24.toInt ∧ z_24.toInt ≤ 1 := cmp_t ez_24
          refine lv_if_lt (tgt := 87) hx hb dX9_when_81 (by decide) (fun c_25 => ?_) (fun c_25 => ?_)
          · skip
            have tc_25 : z_24.toInt < 0 := (fa_lt _ _).mp c_25
            obtain ⟨z_26, ez_26⟩ : ∃ y : Int32, y = x11_5 + 1 := ⟨_, rfl⟩
            have tz_26 : z_26.toInt = x11_5.toInt + 1 := add_t ez_26 (show -2147483648 ≤ x11_5.toInt + 1 by omega) (show x11_5.toInt + 1 < 2147483648 by omega)
            refine lv_iinc (v := z_26) (lv' := [(5, .int z_26), (3, .long z_21), (0, .ref a), (1, .int v0), (2, .int v1)]) hx hb dX9_when_87 hl (k := 1) rfl (by rw [ez_26]; rfl) (by decide) rfl (fun ls hl => ?_)
            refine lv_goto (tgt := 46) hx hb dX9_when_90 (by decide) ?_
            exact ih11 (z_21, z_26, G_11) _ _ _ (by show (61 - z_26.toInt).toNat < (61 - x11_5.toInt).toNat; omega) ⟨(by show 0 ≤ z_26.toInt; omega), (by show z_26.toInt ≤ 61; omega), hF, hT, hS, lv_sub hl [1, 0, 2, 3, 4] rfl⟩
          · skip
            have tc_25 : ¬ z_24.toInt < 0 := fun h => c_25 ((fa_lt _ _).mpr h)
            refine lv_iload hx hb dX9_when_84 (lv_at hl 1 rfl) ?_
            exact ret_i hx hb hr hlocks ⟨⟨hS.1, hS.2.1⟩, G_11, hF, ⟨_, rfl, trivial⟩, hT⟩ hS.2.2 (Nat.le_of_ble_eq_true rfl) (Nat.le_of_ble_eq_true rfl) dX9_when_86
      · skip
        have tc_5 : ¬ v1.toInt ≤ 1000 := fun h => c_5 ((fa_le _ _).mpr h)
        have mc_5 : v1.toInt ≤ 2147483647 := max_t v1
        refine lv_bipush (v := (-2)) hx hb dX9_when_23 (by decide) ?_
        exact ret_i hx hb hr hlocks ⟨⟨hS.1, hS.2.1⟩, G, hF, ⟨_, rfl, trivial⟩, hT⟩ hS.2.2 (Nat.le_of_ble_eq_true rfl) (Nat.le_of_ble_eq_true rfl) dX9_when_25
  · skip
    have er_2 := hr_2_1
    subst er_2
    refine W.eq (g2 := F0 m 8 ls [.int 0]) rfl ?_
    refine lv_if_eq (tgt := 23) hx hb dX9_when_8 (by decide) (fun _ => ?_) (fun c_27 => absurd (by decide) c_27)
    refine lv_bipush (v := (-2)) hx hb dX9_when_23 (by decide) ?_
    exact ret_i hx hb hr hlocks ⟨⟨hS.1, hS.2.1⟩, G, hF, ⟨_, rfl, trivial⟩, hT⟩ hS.2.2 (Nat.le_of_ble_eq_true rfl) (Nat.le_of_ble_eq_true rfl) dX9_when_25
set_option maxHeartbeats 4000000 in
set_option maxRecDepth 100000 in
theorem t_X9_wants (l : Launch) (D : va_G) (cy : Nat → ClassId) (base : Nat) (τ : Nat → Nat) (G : Gh) (a : Nat) (h_a : τ a = 1) (v0 : Int32) (v1 : Int32) (v2 : Int32) : MM l yX9_wants cX9_wants 4 (some .int) 2 0 0 D cy [.ref a, .int v0, .int v1, .int v2] (PT D cy base τ G) (PuI (fun r => True)) noF := by
  refine MM.of (by decide) (Nat.le_of_ble_eq_true rfl) ?_
  intro p e s m below meth c C hPT ls hl
  obtain ⟨hx, hb, hr, hml, hown, hts, hlocks, hK, hnm⟩ := C
  obtain ⟨hZ, hT⟩ := hPT
  have hS : va_S (RA base) s.heap s.heap [] := va_S.rf
  have hl : lv_has ls 4 [(0, .ref a), (1, .int v0), (2, .int v1), (3, .int v2)] := hl
  refine lv_aload_n hx hb dX9_wants_0 rfl (lv_at hl 0 rfl) ?_
  refine t_getr cf_1 hx hb hts hown hK hT h_a (k := 10) (P := fun q => τ q = 7) rfl (fun _ h9 => h9) fl_X9_67 (fun _ h9 => h9) dX9_wants_1 (fun q_1 eq_1 hq_1 => ?_)
  refine lv_iload_n hx hb dX9_wants_4 rfl (lv_at hl 1 rfl) ?_
  refine lv_iload_n hx hb dX9_wants_5 rfl (lv_at hl 2 rfl) ?_
  refine pu_calli (runV (As := [.int v0, .int v1]) (rest := []) ⟨hx, hb, hml, hown, hts⟩ (t_X2_hasStore l D cy base τ G q_1 hq_1 v0 v1) sV_X9_160 hK (t_recv cf_7 hK hT hq_1) ⟨Nat.le_trans hZ hS.1, hT⟩ ⟨Nat.le_of_ble_eq_true rfl, Nat.le_of_ble_eq_true rfl⟩ rfl hl.1 rfl (Nat.le_of_ble_eq_true rfl) dX9_wants_6 ⟨Nat.le_of_ble_eq_true rfl, Nat.le_of_ble_eq_true rfl⟩) (fun r_2 hr_2 => ?_)
  have hr_2_c := hr_2
  rcases hr_2_c with hr_2_0 | hr_2_1
  · skip
    obtain ⟨er_2, hr_2_0_f0, hr_2_0_f1, hr_2_0_f2, hr_2_0_f3⟩ := hr_2_0
    have hr_2_0_f0 : 0 ≤ v0.toInt := hr_2_0_f0
    have hr_2_0_f1 : v0.toInt ≤ 5 := hr_2_0_f1
    have hr_2_0_f2 : 0 ≤ v1.toInt := hr_2_0_f2
    have hr_2_0_f3 : v1.toInt ≤ 2 := hr_2_0_f3
    subst er_2
    refine W.eq (g2 := F0 m 9 ls [.int 1]) rfl ?_
    refine lv_if_eq (tgt := 23) hx hb dX9_wants_9 (by decide) (fun c_3 => absurd c_3 (by decide)) (fun _ => ?_)
    refine lv_aload_n hx hb dX9_wants_12 rfl (lv_at hl 0 rfl) ?_
    refine t_getr cf_1 hx hb hts hown hK hT h_a (k := 10) (P := fun q => τ q = 7) rfl (fun _ h9 => h9) fl_X9_67 (fun _ h9 => h9) dX9_wants_13 (fun q_4 eq_4 hq_4 => ?_)
    have w_5 : q_1 = q_4 := Option.some.inj (eq_1.symm.trans eq_4)
    subst w_5
    refine lv_iload_n hx hb dX9_wants_16 rfl (lv_at hl 3 rfl) ?_
    refine pu_calli (runV (As := [.int v2]) (rest := []) ⟨hx, hb, hml, hown, hts⟩ (t_X2_hasDayOrNever l D cy base τ G q_1 hq_1 v2) sV_X9_103 hK (t_recv cf_7 hK hT hq_1) ⟨Nat.le_trans hZ hS.1, hT⟩ ⟨Nat.le_of_ble_eq_true rfl, Nat.le_of_ble_eq_true rfl⟩ rfl hl.1 rfl (Nat.le_of_ble_eq_true rfl) dX9_wants_17 ⟨Nat.le_of_ble_eq_true rfl, Nat.le_of_ble_eq_true rfl⟩) (fun r_6 hr_6 => ?_)
    have hr_6_c := hr_6
    rcases hr_6_c with hr_6_0 | hr_6_1
    · skip
      obtain ⟨er_6, hr_6_0_f0, hr_6_0_f1⟩ := hr_6_0
      have hr_6_0_f0 : 0 ≤ v2.toInt := hr_6_0_f0
      have hr_6_0_f1 : v2.toInt ≤ 60 := hr_6_0_f1
      subst er_6
      refine W.eq (g2 := F0 m 20 ls [.int 1]) rfl ?_
      refine lv_if_ne (tgt := 26) hx hb dX9_wants_20 (by decide) (fun _ => ?_) (fun c_7 => absurd c_7 (by decide))
      refine lv_aload_n hx hb dX9_wants_26 rfl (lv_at hl 0 rfl) ?_
      refine t_getr cf_1 hx hb hts hown hK hT h_a (k := 10) (P := fun q => τ q = 7) rfl (fun _ h9 => h9) fl_X9_67 (fun _ h9 => h9) dX9_wants_27 (fun q_8 eq_8 hq_8 => ?_)
      have w_9 : q_1 = q_8 := Option.some.inj (eq_1.symm.trans eq_8)
      subst w_9
      refine lv_iload_n hx hb dX9_wants_30 rfl (lv_at hl 1 rfl) ?_
      refine lv_iload_n hx hb dX9_wants_31 rfl (lv_at hl 2 rfl) ?_
      refine lv_iload_n hx hb dX9_wants_32 rfl (lv_at hl 3 rfl) ?_
      refine pu_calli (runV (As := [.int v0, .int v1, .int v2]) (rest := []) ⟨hx, hb, hml, hown, hts⟩ (t_X2_wanted l D cy base τ G q_1 hq_1 v0 v1 v2) sV_X9_163 hK (t_recv cf_7 hK hT hq_1) ⟨Nat.le_trans hZ hS.1, hT⟩ ⟨Nat.le_of_ble_eq_true rfl, Nat.le_of_ble_eq_true rfl⟩ rfl hl.1 rfl (Nat.le_of_ble_eq_true rfl) dX9_wants_33 ⟨Nat.le_of_ble_eq_true rfl, Nat.le_of_ble_eq_true rfl⟩) (fun r_10 hr_10 => ?_)
      exact ret_i hx hb hr hlocks ⟨rfl, _, rfl, trivial⟩ (fun _ h => absurd h List.not_mem_nil) (Nat.le_refl _) (Nat.le_refl _) dX9_wants_36
    · skip
      have er_6 := hr_6_1
      subst er_6
      refine W.eq (g2 := F0 m 20 ls [.int 0]) rfl ?_
      refine lv_if_ne (tgt := 26) hx hb dX9_wants_20 (by decide) (fun c_11 => absurd rfl c_11) (fun _ => ?_)
      refine lv_bipush (v := (-2)) hx hb dX9_wants_23 (by decide) ?_
      exact ret_i hx hb hr hlocks ⟨rfl, _, rfl, trivial⟩ (fun _ h => absurd h List.not_mem_nil) (Nat.le_refl _) (Nat.le_refl _) dX9_wants_25
  · skip
    have er_2 := hr_2_1
    subst er_2
    refine W.eq (g2 := F0 m 9 ls [.int 0]) rfl ?_
    refine lv_if_eq (tgt := 23) hx hb dX9_wants_9 (by decide) (fun _ => ?_) (fun c_12 => absurd (by decide) c_12)
    refine lv_bipush (v := (-2)) hx hb dX9_wants_23 (by decide) ?_
    exact ret_i hx hb hr hlocks ⟨rfl, _, rfl, trivial⟩ (fun _ h => absurd h List.not_mem_nil) (Nat.le_refl _) (Nat.le_refl _) dX9_wants_25
set_option maxHeartbeats 4000000 in
set_option maxRecDepth 100000 in
theorem t_X9_cost (l : Launch) (D : va_G) (cy : Nat → ClassId) (base : Nat) (τ : Nat → Nat) (G : Gh) (a : Nat) (h_a : τ a = 1) (v0 : Int32) (v1 : Int32) (v2 : Int32) : MM l yX9_cost cX9_cost 4 (some .long) 5 0 0 D cy [.ref a, .int v0, .int v1, .int v2] (PT D cy base τ G) (QT D cy base τ G [3, 32, 36, 37] (fun v g => ∃ r : Int64, v = some (.long r) ∧ (True))) (RA base) := by
  refine MM.of (by decide) (Nat.le_of_ble_eq_true rfl) ?_
  intro p e s m below meth c C hPT ls hl
  obtain ⟨hx, hb, hr, hml, hown, hts, hlocks, hK, hnm⟩ := C
  obtain ⟨hZ, hT⟩ := hPT
  have hS : va_S (RA base) s.heap s.heap [] := va_S.rf
  have hF : Fr τ [3, 32, 36, 37] G G := Fr.rf
  have hl : lv_has ls 4 [(0, .ref a), (1, .int v0), (2, .int v1), (3, .int v2)] := hl
  refine lv_aload_n hx hb dX9_cost_0 rfl (lv_at hl 0 rfl) ?_
  refine t_getr cf_1 hx hb hts hown hK hT h_a (k := 10) (P := fun q => τ q = 7) rfl (fun _ h9 => h9) fl_X9_67 (fun _ h9 => h9) dX9_cost_1 (fun q_1 eq_1 hq_1 => ?_)
  refine lv_iload_n hx hb dX9_cost_4 rfl (lv_at hl 1 rfl) ?_
  refine lv_iload_n hx hb dX9_cost_5 rfl (lv_at hl 2 rfl) ?_
  refine pu_calli (runV (As := [.int v0, .int v1]) (rest := []) ⟨hx, hb, hml, hown, hts⟩ (t_X2_hasStore l D cy base τ G q_1 hq_1 v0 v1) sV_X9_160 hK (t_recv cf_7 hK hT hq_1) ⟨Nat.le_trans hZ hS.1, hT⟩ ⟨Nat.le_of_ble_eq_true rfl, Nat.le_of_ble_eq_true rfl⟩ rfl hl.1 rfl (Nat.le_of_ble_eq_true rfl) dX9_cost_6 ⟨Nat.le_of_ble_eq_true rfl, Nat.le_of_ble_eq_true rfl⟩) (fun r_2 hr_2 => ?_)
  have hr_2_c := hr_2
  rcases hr_2_c with hr_2_0 | hr_2_1
  · skip
    obtain ⟨er_2, hr_2_0_f0, hr_2_0_f1, hr_2_0_f2, hr_2_0_f3⟩ := hr_2_0
    have hr_2_0_f0 : 0 ≤ v0.toInt := hr_2_0_f0
    have hr_2_0_f1 : v0.toInt ≤ 5 := hr_2_0_f1
    have hr_2_0_f2 : 0 ≤ v1.toInt := hr_2_0_f2
    have hr_2_0_f3 : v1.toInt ≤ 2 := hr_2_0_f3
    subst er_2
    refine W.eq (g2 := F0 m 9 ls [.int 1]) rfl ?_
    refine lv_if_eq (tgt := 19) hx hb dX9_cost_9 (by decide) (fun c_3 => absurd c_3 (by decide)) (fun _ => ?_)
    refine lv_iload_n hx hb dX9_cost_12 rfl (lv_at hl 3 rfl) ?_
    refine pu_calli (runS (As := [.int v2]) (rest := []) ⟨hx, hb, hml, hown, hts⟩ (t_X9_isSacks l D cy base τ G v2) sS_X9_167 hK ⟨Nat.le_trans hZ hS.1, hT⟩ ⟨Nat.le_of_ble_eq_true rfl, Nat.le_of_ble_eq_true rfl⟩ rfl hl.1 rfl (Nat.le_of_ble_eq_true rfl) dX9_cost_13 ⟨Nat.le_of_ble_eq_true rfl, Nat.le_of_ble_eq_true rfl⟩) (fun r_4 hr_4 => ?_)
    have hr_4_c := hr_4
    rcases hr_4_c with hr_4_0 | hr_4_1
    · skip
      obtain ⟨er_4, hr_4_0_f0, hr_4_0_f1⟩ := hr_4_0
      have hr_4_0_f0 : 0 ≤ v2.toInt := hr_4_0_f0
      have hr_4_0_f1 : v2.toInt ≤ 999 := hr_4_0_f1
      subst er_4
      refine W.eq (g2 := F0 m 16 ls [.int 1]) rfl ?_
      refine lv_if_ne (tgt := 23) hx hb dX9_cost_16 (by decide) (fun _ => ?_) (fun c_5 => absurd c_5 (by decide))
      refine lv_aload_n hx hb dX9_cost_23 rfl (lv_at hl 0 rfl) ?_
      refine t_getr cf_1 hx hb hts hown hK hT h_a (k := 2) (P := fun q => τ q = 3) rfl (fun _ h9 => h9) fl_X9_23 (fun _ h9 => h9) dX9_cost_24 (fun q_6 eq_6 hq_6 => ?_)
      refine lv_aload_n hx hb dX9_cost_27 rfl (lv_at hl 0 rfl) ?_
      refine t_getr cf_1 hx hb hts hown hK hT h_a (k := 10) (P := fun q => τ q = 7) rfl (fun _ h9 => h9) fl_X9_67 (fun _ h9 => h9) dX9_cost_28 (fun q_7 eq_7 hq_7 => ?_)
      have w_8 : q_1 = q_7 := Option.some.inj (eq_1.symm.trans eq_7)
      subst w_8
      refine lv_iload_n hx hb dX9_cost_31 rfl (lv_at hl 1 rfl) ?_
      refine lv_iload_n hx hb dX9_cost_32 rfl (lv_at hl 2 rfl) ?_
      refine t_callv (runV (As := [.ref q_1, .int v0, .int v1]) (rest := []) ⟨hx, hb, hml, hown, hts⟩ (t_X8_layAlone l D cy base τ G q_6 hq_6 q_1 hq_1 v0 v1) sV_X9_170 hK (t_recv cf_3 hK hT hq_6) ⟨Nat.le_trans hZ hS.1, hT⟩ ⟨Nat.le_of_ble_eq_true rfl, Nat.le_of_ble_eq_true rfl⟩ rfl hl.1 rfl (Nat.le_of_ble_eq_true rfl) dX9_cost_33 ⟨Nat.le_of_ble_eq_true rfl, Nat.le_of_ble_eq_true rfl⟩) hS (fun G_9 H locs hF_9 hr_9 hT hS => ?_)
      have hF := hF.tr hF_9 rfl
      refine lv_aload_n hx hb dX9_cost_36 rfl (lv_at hl 0 rfl) ?_
      refine t_getr cf_1 hx hb hts hown hK hT h_a (k := 2) (P := fun q => τ q = 3) rfl (fun _ h9 => h9) fl_X9_23 (fun _ h9 => h9) dX9_cost_37 (fun q_10 eq_10 hq_10 => ?_)
      have w_11 : q_6 = q_10 := Option.some.inj (eq_6.symm.trans ((hF.r h_a (by decide) rfl _).symm.trans eq_10))
      subst w_11
      refine lv_iload_n hx hb dX9_cost_40 rfl (lv_at hl 3 rfl) ?_
      refine pu_calll (runV (As := [.int v2]) (rest := []) ⟨hx, hb, hml, hown, hts⟩ (t_X8_thousandths l D cy base τ G_9 q_6 hq_6 v2) sV_X9_173 hK (t_recv cf_3 hK hT hq_6) ⟨Nat.le_trans hZ hS.1, hT⟩ ⟨Nat.le_of_ble_eq_true rfl, Nat.le_of_ble_eq_true rfl⟩ rfl hl.1 rfl (Nat.le_of_ble_eq_true rfl) dX9_cost_41 ⟨Nat.le_of_ble_eq_true rfl, Nat.le_of_ble_eq_true rfl⟩) (fun r_12 hr_12 => ?_)
      exact ret_l hx hb hr hlocks ⟨⟨hS.1, hS.2.1⟩, G_9, hF, ⟨_, rfl, trivial⟩, hT⟩ hS.2.2 (Nat.le_of_ble_eq_true rfl) (Nat.le_of_ble_eq_true rfl) dX9_cost_44
    · skip
      have er_4 := hr_4_1
      subst er_4
      refine W.eq (g2 := F0 m 16 ls [.int 0]) rfl ?_
      refine lv_if_ne (tgt := 23) hx hb dX9_cost_16 (by decide) (fun c_13 => absurd rfl c_13) (fun _ => ?_)
      refine lv_ldc2 (v := (-2)) hx hb hown (hts _ kl_X9_106) dX9_cost_19 ?_
      exact ret_l hx hb hr hlocks ⟨⟨hS.1, hS.2.1⟩, G, hF, ⟨_, rfl, trivial⟩, hT⟩ hS.2.2 (Nat.le_of_ble_eq_true rfl) (Nat.le_of_ble_eq_true rfl) dX9_cost_22
  · skip
    have er_2 := hr_2_1
    subst er_2
    refine W.eq (g2 := F0 m 9 ls [.int 0]) rfl ?_
    refine lv_if_eq (tgt := 19) hx hb dX9_cost_9 (by decide) (fun _ => ?_) (fun c_14 => absurd (by decide) c_14)
    refine lv_ldc2 (v := (-2)) hx hb hown (hts _ kl_X9_106) dX9_cost_19 ?_
    exact ret_l hx hb hr hlocks ⟨⟨hS.1, hS.2.1⟩, G, hF, ⟨_, rfl, trivial⟩, hT⟩ hS.2.2 (Nat.le_of_ble_eq_true rfl) (Nat.le_of_ble_eq_true rfl) dX9_cost_22
set_option maxHeartbeats 4000000 in
set_option maxRecDepth 100000 in
theorem t_X9_worth (l : Launch) (D : va_G) (cy : Nat → ClassId) (base : Nat) (τ : Nat → Nat) (G : Gh) (a : Nat) (h_a : τ a = 1) (v0 : Int32) (v1 : Int32) (v2 : Int32) : MM l yX9_worth cX9_worth 4 (some .long) 5 0 0 D cy [.ref a, .int v0, .int v1, .int v2] (PT D cy base τ G) (QT D cy base τ G [3, 32, 36, 37] (fun v g => ∃ r : Int64, v = some (.long r) ∧ (True))) (RA base) := by
  refine MM.of (by decide) (Nat.le_of_ble_eq_true rfl) ?_
  intro p e s m below meth c C hPT ls hl
  obtain ⟨hx, hb, hr, hml, hown, hts, hlocks, hK, hnm⟩ := C
  obtain ⟨hZ, hT⟩ := hPT
  have hS : va_S (RA base) s.heap s.heap [] := va_S.rf
  have hF : Fr τ [3, 32, 36, 37] G G := Fr.rf
  have hl : lv_has ls 4 [(0, .ref a), (1, .int v0), (2, .int v1), (3, .int v2)] := hl
  refine lv_aload_n hx hb dX9_worth_0 rfl (lv_at hl 0 rfl) ?_
  refine t_getr cf_1 hx hb hts hown hK hT h_a (k := 10) (P := fun q => τ q = 7) rfl (fun _ h9 => h9) fl_X9_67 (fun _ h9 => h9) dX9_worth_1 (fun q_1 eq_1 hq_1 => ?_)
  refine lv_iload_n hx hb dX9_worth_4 rfl (lv_at hl 1 rfl) ?_
  refine lv_iload_n hx hb dX9_worth_5 rfl (lv_at hl 2 rfl) ?_
  refine pu_calli (runV (As := [.int v0, .int v1]) (rest := []) ⟨hx, hb, hml, hown, hts⟩ (t_X2_hasStore l D cy base τ G q_1 hq_1 v0 v1) sV_X9_160 hK (t_recv cf_7 hK hT hq_1) ⟨Nat.le_trans hZ hS.1, hT⟩ ⟨Nat.le_of_ble_eq_true rfl, Nat.le_of_ble_eq_true rfl⟩ rfl hl.1 rfl (Nat.le_of_ble_eq_true rfl) dX9_worth_6 ⟨Nat.le_of_ble_eq_true rfl, Nat.le_of_ble_eq_true rfl⟩) (fun r_2 hr_2 => ?_)
  have hr_2_c := hr_2
  rcases hr_2_c with hr_2_0 | hr_2_1
  · skip
    obtain ⟨er_2, hr_2_0_f0, hr_2_0_f1, hr_2_0_f2, hr_2_0_f3⟩ := hr_2_0
    have hr_2_0_f0 : 0 ≤ v0.toInt := hr_2_0_f0
    have hr_2_0_f1 : v0.toInt ≤ 5 := hr_2_0_f1
    have hr_2_0_f2 : 0 ≤ v1.toInt := hr_2_0_f2
    have hr_2_0_f3 : v1.toInt ≤ 2 := hr_2_0_f3
    subst er_2
    refine W.eq (g2 := F0 m 9 ls [.int 1]) rfl ?_
    refine lv_if_eq (tgt := 23) hx hb dX9_worth_9 (by decide) (fun c_3 => absurd c_3 (by decide)) (fun _ => ?_)
    refine lv_iload_n hx hb dX9_worth_12 rfl (lv_at hl 3 rfl) ?_
    refine lv_if_lt (tgt := 23) hx hb dX9_worth_13 (by decide) (fun c_4 => ?_) (fun c_4 => ?_)
    · skip
      have tc_4 : v2.toInt < 0 := (fa_lt _ _).mp c_4
      refine lv_ldc2 (v := (-1000000000000)) hx hb hown (hts _ kl_X9_176) dX9_worth_23 ?_
      exact ret_l hx hb hr hlocks ⟨⟨hS.1, hS.2.1⟩, G, hF, ⟨_, rfl, trivial⟩, hT⟩ hS.2.2 (Nat.le_of_ble_eq_true rfl) (Nat.le_of_ble_eq_true rfl) dX9_worth_26
    · skip
      have tc_4 : ¬ v2.toInt < 0 := fun h => c_4 ((fa_lt _ _).mpr h)
      refine lv_iload_n hx hb dX9_worth_16 rfl (lv_at hl 3 rfl) ?_
      refine lv_sipush (v := 999) hx hb dX9_worth_17 (by decide) ?_
      refine lv_icmp_lt (tgt := 27) hx hb dX9_worth_20 (by decide) (fun c_5 => ?_) (fun c_5 => ?_)
      · skip
        have tc_5 : v2.toInt < 999 := (fa_lt _ _).mp c_5
        refine lv_aload_n hx hb dX9_worth_27 rfl (lv_at hl 0 rfl) ?_
        refine t_getr cf_1 hx hb hts hown hK hT h_a (k := 2) (P := fun q => τ q = 3) rfl (fun _ h9 => h9) fl_X9_23 (fun _ h9 => h9) dX9_worth_28 (fun q_6 eq_6 hq_6 => ?_)
        refine lv_aload_n hx hb dX9_worth_31 rfl (lv_at hl 0 rfl) ?_
        refine t_getr cf_1 hx hb hts hown hK hT h_a (k := 10) (P := fun q => τ q = 7) rfl (fun _ h9 => h9) fl_X9_67 (fun _ h9 => h9) dX9_worth_32 (fun q_7 eq_7 hq_7 => ?_)
        have w_8 : q_1 = q_7 := Option.some.inj (eq_1.symm.trans eq_7)
        subst w_8
        refine lv_iload_n hx hb dX9_worth_35 rfl (lv_at hl 1 rfl) ?_
        refine lv_iload_n hx hb dX9_worth_36 rfl (lv_at hl 2 rfl) ?_
        refine t_callv (runV (As := [.ref q_1, .int v0, .int v1]) (rest := []) ⟨hx, hb, hml, hown, hts⟩ (t_X8_layAlone l D cy base τ G q_6 hq_6 q_1 hq_1 v0 v1) sV_X9_170 hK (t_recv cf_3 hK hT hq_6) ⟨Nat.le_trans hZ hS.1, hT⟩ ⟨Nat.le_of_ble_eq_true rfl, Nat.le_of_ble_eq_true rfl⟩ rfl hl.1 rfl (Nat.le_of_ble_eq_true rfl) dX9_worth_37 ⟨Nat.le_of_ble_eq_true rfl, Nat.le_of_ble_eq_true rfl⟩) hS (fun G_9 H locs hF_9 hr_9 hT hS => ?_)
        have hF := hF.tr hF_9 rfl
        refine lv_aload_n hx hb dX9_worth_40 rfl (lv_at hl 0 rfl) ?_
        refine t_getr cf_1 hx hb hts hown hK hT h_a (k := 2) (P := fun q => τ q = 3) rfl (fun _ h9 => h9) fl_X9_23 (fun _ h9 => h9) dX9_worth_41 (fun q_10 eq_10 hq_10 => ?_)
        have w_11 : q_6 = q_10 := Option.some.inj (eq_6.symm.trans ((hF.r h_a (by decide) rfl _).symm.trans eq_10))
        subst w_11
        refine lv_iconst (v := 0) hx hb dX9_worth_44 (by decide) ?_
        refine lv_iload_n hx hb dX9_worth_45 rfl (lv_at hl 3 rfl) ?_
        refine pu_calll (runV (As := [.int 0, .int v2]) (rest := []) ⟨hx, hb, hml, hown, hts⟩ (t_X8_whole l D cy base τ G_9 q_6 hq_6 0 v2) sV_X9_178 hK (t_recv cf_3 hK hT hq_6) ⟨Nat.le_trans hZ hS.1, hT⟩ ⟨Nat.le_of_ble_eq_true rfl, Nat.le_of_ble_eq_true rfl⟩ rfl hl.1 rfl (Nat.le_of_ble_eq_true rfl) dX9_worth_46 ⟨Nat.le_of_ble_eq_true rfl, Nat.le_of_ble_eq_true rfl⟩) (fun r_12 hr_12 => ?_)
        refine lv_aload_n hx hb dX9_worth_49 rfl (lv_at hl 0 rfl) ?_
        refine t_getr cf_1 hx hb hts hown hK hT h_a (k := 2) (P := fun q => τ q = 3) rfl (fun _ h9 => h9) fl_X9_23 (fun _ h9 => h9) dX9_worth_50 (fun q_13 eq_13 hq_13 => ?_)
        have w_14 : q_6 = q_13 := Option.some.inj (eq_6.symm.trans ((hF.r h_a (by decide) rfl _).symm.trans eq_13))
        subst w_14
        refine lv_iconst (v := 0) hx hb dX9_worth_53 (by decide) ?_
        refine lv_iload_n hx hb dX9_worth_54 rfl (lv_at hl 3 rfl) ?_
        refine lv_iconst (v := 1) hx hb dX9_worth_55 (by decide) ?_
        refine lv_iadd hx hb dX9_worth_56 ?_
        refine lv_topi (fun z_15 ez_15 => ?_)
        have tz_15 : z_15.toInt = v2.toInt + 1 := add_t ez_15 (show -2147483648 ≤ v2.toInt + 1 by omega) (show v2.toInt + 1 < 2147483648 by omega)
        refine pu_calll (runV (As := [.int 0, .int z_15]) (rest := [.long r_12]) ⟨hx, hb, hml, hown, hts⟩ (t_X8_whole l D cy base τ G_9 q_6 hq_6 0 z_15) sV_X9_178 hK (t_recv cf_3 hK hT hq_6) ⟨Nat.le_trans hZ hS.1, hT⟩ ⟨Nat.le_of_ble_eq_true rfl, Nat.le_of_ble_eq_true rfl⟩ rfl hl.1 rfl (Nat.le_of_ble_eq_true rfl) dX9_worth_57 ⟨Nat.le_of_ble_eq_true rfl, Nat.le_of_ble_eq_true rfl⟩) (fun r_16 hr_16 => ?_)
        refine lv_lsub hx hb dX9_worth_60 ?_
        refine lv_topl (fun z_17 ez_17 => ?_)
        refine lv_ldc2 (v := 1000000000) hx hb hown (hts _ kl_X9_158) dX9_worth_61 ?_
        refine lv_ldiv hx hb dX9_worth_64 (by decide) ?_
        refine lv_topl (fun z_18 ez_18 => ?_)
        exact ret_l hx hb hr hlocks ⟨⟨hS.1, hS.2.1⟩, G_9, hF, ⟨_, rfl, trivial⟩, hT⟩ hS.2.2 (Nat.le_of_ble_eq_true rfl) (Nat.le_of_ble_eq_true rfl) dX9_worth_65
      · skip
        have tc_5 : ¬ v2.toInt < 999 := fun h => c_5 ((fa_lt _ _).mpr h)
        refine lv_ldc2 (v := (-1000000000000)) hx hb hown (hts _ kl_X9_176) dX9_worth_23 ?_
        exact ret_l hx hb hr hlocks ⟨⟨hS.1, hS.2.1⟩, G, hF, ⟨_, rfl, trivial⟩, hT⟩ hS.2.2 (Nat.le_of_ble_eq_true rfl) (Nat.le_of_ble_eq_true rfl) dX9_worth_26
  · skip
    have er_2 := hr_2_1
    subst er_2
    refine W.eq (g2 := F0 m 9 ls [.int 0]) rfl ?_
    refine lv_if_eq (tgt := 23) hx hb dX9_worth_9 (by decide) (fun _ => ?_) (fun c_19 => absurd (by decide) c_19)
    refine lv_ldc2 (v := (-1000000000000)) hx hb hown (hts _ kl_X9_176) dX9_worth_23 ?_
    exact ret_l hx hb hr hlocks ⟨⟨hS.1, hS.2.1⟩, G, hF, ⟨_, rfl, trivial⟩, hT⟩ hS.2.2 (Nat.le_of_ble_eq_true rfl) (Nat.le_of_ble_eq_true rfl) dX9_worth_26
set_option maxHeartbeats 4000000 in
set_option maxRecDepth 100000 in
theorem t_X9_best (l : Launch) (D : va_G) (cy : Nat → ClassId) (base : Nat) (τ : Nat → Nat) (G : Gh) (a : Nat) (h_a : τ a = 1) (v0 : Int32) (v1 : Int32) : MM l yX9_best cX9_best 3 (some .int) 5 0 0 D cy [.ref a, .int v0, .int v1] (PT D cy base τ G) (QT D cy base τ G [3, 32, 36, 37] (fun v g => ∃ r : Int32, v = some (.int r) ∧ (True))) (RA base) := by
  refine MM.of (by decide) (Nat.le_of_ble_eq_true rfl) ?_
  intro p e s m below meth c C hPT ls hl
  obtain ⟨hx, hb, hr, hml, hown, hts, hlocks, hK, hnm⟩ := C
  obtain ⟨hZ, hT⟩ := hPT
  have hS : va_S (RA base) s.heap s.heap [] := va_S.rf
  have hF : Fr τ [3, 32, 36, 37] G G := Fr.rf
  have hl : lv_has ls 3 [(0, .ref a), (1, .int v0), (2, .int v1)] := hl
  refine lv_aload_n hx hb dX9_best_0 rfl (lv_at hl 0 rfl) ?_
  refine t_getr cf_1 hx hb hts hown hK hT h_a (k := 10) (P := fun q => τ q = 7) rfl (fun _ h9 => h9) fl_X9_67 (fun _ h9 => h9) dX9_best_1 (fun q_1 eq_1 hq_1 => ?_)
  refine lv_iload_n hx hb dX9_best_4 rfl (lv_at hl 1 rfl) ?_
  refine lv_iload_n hx hb dX9_best_5 rfl (lv_at hl 2 rfl) ?_
  refine pu_calli (runV (As := [.int v0, .int v1]) (rest := []) ⟨hx, hb, hml, hown, hts⟩ (t_X2_hasStore l D cy base τ G q_1 hq_1 v0 v1) sV_X9_160 hK (t_recv cf_7 hK hT hq_1) ⟨Nat.le_trans hZ hS.1, hT⟩ ⟨Nat.le_of_ble_eq_true rfl, Nat.le_of_ble_eq_true rfl⟩ rfl hl.1 rfl (Nat.le_of_ble_eq_true rfl) dX9_best_6 ⟨Nat.le_of_ble_eq_true rfl, Nat.le_of_ble_eq_true rfl⟩) (fun r_2 hr_2 => ?_)
  have hr_2_c := hr_2
  rcases hr_2_c with hr_2_0 | hr_2_1
  · skip
    obtain ⟨er_2, hr_2_0_f0, hr_2_0_f1, hr_2_0_f2, hr_2_0_f3⟩ := hr_2_0
    have hr_2_0_f0 : 0 ≤ v0.toInt := hr_2_0_f0
    have hr_2_0_f1 : v0.toInt ≤ 5 := hr_2_0_f1
    have hr_2_0_f2 : 0 ≤ v1.toInt := hr_2_0_f2
    have hr_2_0_f3 : v1.toInt ≤ 2 := hr_2_0_f3
    subst er_2
    refine W.eq (g2 := F0 m 9 ls [.int 1]) rfl ?_
    refine lv_if_ne (tgt := 15) hx hb dX9_best_9 (by decide) (fun _ => ?_) (fun c_3 => absurd c_3 (by decide))
    refine lv_aload_n hx hb dX9_best_15 rfl (lv_at hl 0 rfl) ?_
    refine t_getr cf_1 hx hb hts hown hK hT h_a (k := 2) (P := fun q => τ q = 3) rfl (fun _ h9 => h9) fl_X9_23 (fun _ h9 => h9) dX9_best_16 (fun q_4 eq_4 hq_4 => ?_)
    refine lv_aload_n hx hb dX9_best_19 rfl (lv_at hl 0 rfl) ?_
    refine t_getr cf_1 hx hb hts hown hK hT h_a (k := 10) (P := fun q => τ q = 7) rfl (fun _ h9 => h9) fl_X9_67 (fun _ h9 => h9) dX9_best_20 (fun q_5 eq_5 hq_5 => ?_)
    have w_6 : q_1 = q_5 := Option.some.inj (eq_1.symm.trans eq_5)
    subst w_6
    refine lv_iload_n hx hb dX9_best_23 rfl (lv_at hl 1 rfl) ?_
    refine lv_iload_n hx hb dX9_best_24 rfl (lv_at hl 2 rfl) ?_
    refine t_callv (runV (As := [.ref q_1, .int v0, .int v1]) (rest := []) ⟨hx, hb, hml, hown, hts⟩ (t_X8_layAlone l D cy base τ G q_4 hq_4 q_1 hq_1 v0 v1) sV_X9_170 hK (t_recv cf_3 hK hT hq_4) ⟨Nat.le_trans hZ hS.1, hT⟩ ⟨Nat.le_of_ble_eq_true rfl, Nat.le_of_ble_eq_true rfl⟩ rfl hl.1 rfl (Nat.le_of_ble_eq_true rfl) dX9_best_25 ⟨Nat.le_of_ble_eq_true rfl, Nat.le_of_ble_eq_true rfl⟩) hS (fun G_7 H locs hF_7 hr_7 hT hS => ?_)
    have hF := hF.tr hF_7 rfl
    refine lv_aload_n hx hb dX9_best_28 rfl (lv_at hl 0 rfl) ?_
    refine t_getr cf_1 hx hb hts hown hK hT h_a (k := 2) (P := fun q => τ q = 3) rfl (fun _ h9 => h9) fl_X9_23 (fun _ h9 => h9) dX9_best_29 (fun q_8 eq_8 hq_8 => ?_)
    have w_9 : q_4 = q_8 := Option.some.inj (eq_4.symm.trans ((hF.r h_a (by decide) rfl _).symm.trans eq_8))
    subst w_9
    refine lv_iconst (v := 0) hx hb dX9_best_32 (by decide) ?_
    refine pu_calli (runV (As := [.int 0]) (rest := []) ⟨hx, hb, hml, hown, hts⟩ (t_X8_leastSacks l D cy base τ G_7 q_4 hq_4 0) sV_X9_181 hK (t_recv cf_3 hK hT hq_4) ⟨Nat.le_trans hZ hS.1, hT⟩ ⟨Nat.le_of_ble_eq_true rfl, Nat.le_of_ble_eq_true rfl⟩ rfl hl.1 rfl (Nat.le_of_ble_eq_true rfl) dX9_best_33 ⟨Nat.le_of_ble_eq_true rfl, Nat.le_of_ble_eq_true rfl⟩) (fun r_10 hr_10 => ?_)
    obtain ⟨hr_10_lo, hr_10_hi⟩ := hr_10
    have hr_10_lo : 0 ≤ r_10.toInt := hr_10_lo
    have hr_10_hi : r_10.toInt ≤ 999 := hr_10_hi
    exact ret_i hx hb hr hlocks ⟨⟨hS.1, hS.2.1⟩, G_7, hF, ⟨_, rfl, trivial⟩, hT⟩ hS.2.2 (Nat.le_of_ble_eq_true rfl) (Nat.le_of_ble_eq_true rfl) dX9_best_36
  · skip
    have er_2 := hr_2_1
    subst er_2
    refine W.eq (g2 := F0 m 9 ls [.int 0]) rfl ?_
    refine lv_if_ne (tgt := 15) hx hb dX9_best_9 (by decide) (fun c_11 => absurd rfl c_11) (fun _ => ?_)
    refine lv_bipush (v := (-2)) hx hb dX9_best_12 (by decide) ?_
    exact ret_i hx hb hr hlocks ⟨⟨hS.1, hS.2.1⟩, G, hF, ⟨_, rfl, trivial⟩, hT⟩ hS.2.2 (Nat.le_of_ble_eq_true rfl) (Nat.le_of_ble_eq_true rfl) dX9_best_14
set_option maxHeartbeats 4000000 in
set_option maxRecDepth 100000 in
theorem t_X9_sure (l : Launch) (D : va_G) (cy : Nat → ClassId) (base : Nat) (τ : Nat → Nat) (G : Gh) (a : Nat) (h_a : τ a = 1) (v0 : Int32) (v1 : Int32) (v2 : Int32) : MM l yX9_sure cX9_sure 4 (some .long) 4 0 0 D cy [.ref a, .int v0, .int v1, .int v2] (PT D cy base τ G) (QT D cy base τ G [3, 32, 36] (fun v g => ∃ r : Int64, v = some (.long r) ∧ (True))) (RA base) := by
  refine MM.of (by decide) (Nat.le_of_ble_eq_true rfl) ?_
  intro p e s m below meth c C hPT ls hl
  obtain ⟨hx, hb, hr, hml, hown, hts, hlocks, hK, hnm⟩ := C
  obtain ⟨hZ, hT⟩ := hPT
  have hS : va_S (RA base) s.heap s.heap [] := va_S.rf
  have hF : Fr τ [3, 32, 36] G G := Fr.rf
  have hl : lv_has ls 4 [(0, .ref a), (1, .int v0), (2, .int v1), (3, .int v2)] := hl
  refine lv_aload_n hx hb dX9_sure_0 rfl (lv_at hl 0 rfl) ?_
  refine t_getr cf_1 hx hb hts hown hK hT h_a (k := 10) (P := fun q => τ q = 7) rfl (fun _ h9 => h9) fl_X9_67 (fun _ h9 => h9) dX9_sure_1 (fun q_1 eq_1 hq_1 => ?_)
  refine lv_iload_n hx hb dX9_sure_4 rfl (lv_at hl 1 rfl) ?_
  refine lv_iload_n hx hb dX9_sure_5 rfl (lv_at hl 2 rfl) ?_
  refine pu_calli (runV (As := [.int v0, .int v1]) (rest := []) ⟨hx, hb, hml, hown, hts⟩ (t_X2_hasStore l D cy base τ G q_1 hq_1 v0 v1) sV_X9_160 hK (t_recv cf_7 hK hT hq_1) ⟨Nat.le_trans hZ hS.1, hT⟩ ⟨Nat.le_of_ble_eq_true rfl, Nat.le_of_ble_eq_true rfl⟩ rfl hl.1 rfl (Nat.le_of_ble_eq_true rfl) dX9_sure_6 ⟨Nat.le_of_ble_eq_true rfl, Nat.le_of_ble_eq_true rfl⟩) (fun r_2 hr_2 => ?_)
  have hr_2_c := hr_2
  rcases hr_2_c with hr_2_0 | hr_2_1
  · skip
    obtain ⟨er_2, hr_2_0_f0, hr_2_0_f1, hr_2_0_f2, hr_2_0_f3⟩ := hr_2_0
    have hr_2_0_f0 : 0 ≤ v0.toInt := hr_2_0_f0
    have hr_2_0_f1 : v0.toInt ≤ 5 := hr_2_0_f1
    have hr_2_0_f2 : 0 ≤ v1.toInt := hr_2_0_f2
    have hr_2_0_f3 : v1.toInt ≤ 2 := hr_2_0_f3
    subst er_2
    refine W.eq (g2 := F0 m 9 ls [.int 1]) rfl ?_
    refine lv_if_eq (tgt := 19) hx hb dX9_sure_9 (by decide) (fun c_3 => absurd c_3 (by decide)) (fun _ => ?_)
    refine lv_iload_n hx hb dX9_sure_12 rfl (lv_at hl 3 rfl) ?_
    refine pu_calli (runS (As := [.int v2]) (rest := []) ⟨hx, hb, hml, hown, hts⟩ (t_X9_isSacks l D cy base τ G v2) sS_X9_167 hK ⟨Nat.le_trans hZ hS.1, hT⟩ ⟨Nat.le_of_ble_eq_true rfl, Nat.le_of_ble_eq_true rfl⟩ rfl hl.1 rfl (Nat.le_of_ble_eq_true rfl) dX9_sure_13 ⟨Nat.le_of_ble_eq_true rfl, Nat.le_of_ble_eq_true rfl⟩) (fun r_4 hr_4 => ?_)
    have hr_4_c := hr_4
    rcases hr_4_c with hr_4_0 | hr_4_1
    · skip
      obtain ⟨er_4, hr_4_0_f0, hr_4_0_f1⟩ := hr_4_0
      have hr_4_0_f0 : 0 ≤ v2.toInt := hr_4_0_f0
      have hr_4_0_f1 : v2.toInt ≤ 999 := hr_4_0_f1
      subst er_4
      refine W.eq (g2 := F0 m 16 ls [.int 1]) rfl ?_
      refine lv_if_ne (tgt := 23) hx hb dX9_sure_16 (by decide) (fun _ => ?_) (fun c_5 => absurd c_5 (by decide))
      refine lv_aload_n hx hb dX9_sure_23 rfl (lv_at hl 0 rfl) ?_
      refine t_getr cf_1 hx hb hts hown hK hT h_a (k := 2) (P := fun q => τ q = 3) rfl (fun _ h9 => h9) fl_X9_23 (fun _ h9 => h9) dX9_sure_24 (fun q_6 eq_6 hq_6 => ?_)
      refine lv_aload_n hx hb dX9_sure_27 rfl (lv_at hl 0 rfl) ?_
      refine t_getr cf_1 hx hb hts hown hK hT h_a (k := 10) (P := fun q => τ q = 7) rfl (fun _ h9 => h9) fl_X9_67 (fun _ h9 => h9) dX9_sure_28 (fun q_7 eq_7 hq_7 => ?_)
      have w_8 : q_1 = q_7 := Option.some.inj (eq_1.symm.trans eq_7)
      subst w_8
      refine lv_iload_n hx hb dX9_sure_31 rfl (lv_at hl 1 rfl) ?_
      refine lv_iload_n hx hb dX9_sure_32 rfl (lv_at hl 2 rfl) ?_
      refine t_callv (runV (As := [.ref q_1, .int v0, .int v1]) (rest := []) ⟨hx, hb, hml, hown, hts⟩ (t_X8_gatherAlone l D cy base τ G q_6 hq_6 q_1 hq_1 v0 v1) sV_X9_184 hK (t_recv cf_3 hK hT hq_6) ⟨Nat.le_trans hZ hS.1, hT⟩ ⟨Nat.le_of_ble_eq_true rfl, Nat.le_of_ble_eq_true rfl⟩ rfl hl.1 rfl (Nat.le_of_ble_eq_true rfl) dX9_sure_33 ⟨Nat.le_of_ble_eq_true rfl, Nat.le_of_ble_eq_true rfl⟩) hS (fun G_9 H locs hF_9 hr_9 hT hS => ?_)
      have hF := hF.tr hF_9 rfl
      refine lv_aload_n hx hb dX9_sure_36 rfl (lv_at hl 0 rfl) ?_
      refine t_getr cf_1 hx hb hts hown hK hT h_a (k := 2) (P := fun q => τ q = 3) rfl (fun _ h9 => h9) fl_X9_23 (fun _ h9 => h9) dX9_sure_37 (fun q_10 eq_10 hq_10 => ?_)
      have w_11 : q_6 = q_10 := Option.some.inj (eq_6.symm.trans ((hF.r h_a (by decide) rfl _).symm.trans eq_10))
      subst w_11
      refine lv_iload_n hx hb dX9_sure_40 rfl (lv_at hl 3 rfl) ?_
      refine pu_calll (runV (As := [.int v2]) (rest := []) ⟨hx, hb, hml, hown, hts⟩ (t_X8_enough l D cy base τ G_9 q_6 hq_6 v2 ⟨by omega, by omega⟩) sV_X9_187 hK (t_recv cf_3 hK hT hq_6) ⟨Nat.le_trans hZ hS.1, hT⟩ ⟨Nat.le_of_ble_eq_true rfl, Nat.le_of_ble_eq_true rfl⟩ rfl hl.1 rfl (Nat.le_of_ble_eq_true rfl) dX9_sure_41 ⟨Nat.le_of_ble_eq_true rfl, Nat.le_of_ble_eq_true rfl⟩) (fun r_12 hr_12 => ?_)
      exact ret_l hx hb hr hlocks ⟨⟨hS.1, hS.2.1⟩, G_9, hF, ⟨_, rfl, trivial⟩, hT⟩ hS.2.2 (Nat.le_of_ble_eq_true rfl) (Nat.le_of_ble_eq_true rfl) dX9_sure_44
    · skip
      have er_4 := hr_4_1
      subst er_4
      refine W.eq (g2 := F0 m 16 ls [.int 0]) rfl ?_
      refine lv_if_ne (tgt := 23) hx hb dX9_sure_16 (by decide) (fun c_13 => absurd rfl c_13) (fun _ => ?_)
      refine lv_ldc2 (v := (-2)) hx hb hown (hts _ kl_X9_106) dX9_sure_19 ?_
      exact ret_l hx hb hr hlocks ⟨⟨hS.1, hS.2.1⟩, G, hF, ⟨_, rfl, trivial⟩, hT⟩ hS.2.2 (Nat.le_of_ble_eq_true rfl) (Nat.le_of_ble_eq_true rfl) dX9_sure_22
  · skip
    have er_2 := hr_2_1
    subst er_2
    refine W.eq (g2 := F0 m 9 ls [.int 0]) rfl ?_
    refine lv_if_eq (tgt := 19) hx hb dX9_sure_9 (by decide) (fun _ => ?_) (fun c_14 => absurd (by decide) c_14)
    refine lv_ldc2 (v := (-2)) hx hb hown (hts _ kl_X9_106) dX9_sure_19 ?_
    exact ret_l hx hb hr hlocks ⟨⟨hS.1, hS.2.1⟩, G, hF, ⟨_, rfl, trivial⟩, hT⟩ hS.2.2 (Nat.le_of_ble_eq_true rfl) (Nat.le_of_ble_eq_true rfl) dX9_sure_22
set_option maxHeartbeats 4000000 in
set_option maxRecDepth 100000 in
theorem t_X9_need (l : Launch) (D : va_G) (cy : Nat → ClassId) (base : Nat) (τ : Nat → Nat) (G : Gh) (a : Nat) (h_a : τ a = 1) (v0 : Int32) (v1 : Int32) (v2 : Int32) : MM l yX9_need cX9_need 7 (some .int) 4 0 0 D cy [.ref a, .int v0, .int v1, .int v2] (PT D cy base τ G) (QT D cy base τ G [3, 32, 36] (fun v g => ∃ r : Int32, v = some (.int r) ∧ (True))) (RA base) := by
  refine MM.of (by decide) (Nat.le_of_ble_eq_true rfl) ?_
  intro p e s m below meth c C hPT ls hl
  obtain ⟨hx, hb, hr, hml, hown, hts, hlocks, hK, hnm⟩ := C
  obtain ⟨hZ, hT⟩ := hPT
  have hS : va_S (RA base) s.heap s.heap [] := va_S.rf
  have hF : Fr τ [3, 32, 36] G G := Fr.rf
  have hl : lv_has ls 7 [(0, .ref a), (1, .int v0), (2, .int v1), (3, .int v2)] := hl
  refine lv_aload_n hx hb dX9_need_0 rfl (lv_at hl 0 rfl) ?_
  refine t_getr cf_1 hx hb hts hown hK hT h_a (k := 10) (P := fun q => τ q = 7) rfl (fun _ h9 => h9) fl_X9_67 (fun _ h9 => h9) dX9_need_1 (fun q_1 eq_1 hq_1 => ?_)
  refine lv_iload_n hx hb dX9_need_4 rfl (lv_at hl 1 rfl) ?_
  refine lv_iload_n hx hb dX9_need_5 rfl (lv_at hl 2 rfl) ?_
  refine pu_calli (runV (As := [.int v0, .int v1]) (rest := []) ⟨hx, hb, hml, hown, hts⟩ (t_X2_hasStore l D cy base τ G q_1 hq_1 v0 v1) sV_X9_160 hK (t_recv cf_7 hK hT hq_1) ⟨Nat.le_trans hZ hS.1, hT⟩ ⟨Nat.le_of_ble_eq_true rfl, Nat.le_of_ble_eq_true rfl⟩ rfl hl.1 rfl (Nat.le_of_ble_eq_true rfl) dX9_need_6 ⟨Nat.le_of_ble_eq_true rfl, Nat.le_of_ble_eq_true rfl⟩) (fun r_2 hr_2 => ?_)
  have hr_2_c := hr_2
  rcases hr_2_c with hr_2_0 | hr_2_1
  · skip
    obtain ⟨er_2, hr_2_0_f0, hr_2_0_f1, hr_2_0_f2, hr_2_0_f3⟩ := hr_2_0
    have hr_2_0_f0 : 0 ≤ v0.toInt := hr_2_0_f0
    have hr_2_0_f1 : v0.toInt ≤ 5 := hr_2_0_f1
    have hr_2_0_f2 : 0 ≤ v1.toInt := hr_2_0_f2
    have hr_2_0_f3 : v1.toInt ≤ 2 := hr_2_0_f3
    subst er_2
    refine W.eq (g2 := F0 m 9 ls [.int 1]) rfl ?_
    refine lv_if_eq (tgt := 23) hx hb dX9_need_9 (by decide) (fun c_3 => absurd c_3 (by decide)) (fun _ => ?_)
    refine lv_iload_n hx hb dX9_need_12 rfl (lv_at hl 3 rfl) ?_
    refine lv_if_lt (tgt := 23) hx hb dX9_need_13 (by decide) (fun c_4 => ?_) (fun c_4 => ?_)
    · skip
      have tc_4 : v2.toInt < 0 := (fa_lt _ _).mp c_4
      refine lv_bipush (v := (-2)) hx hb dX9_need_23 (by decide) ?_
      exact ret_i hx hb hr hlocks ⟨⟨hS.1, hS.2.1⟩, G, hF, ⟨_, rfl, trivial⟩, hT⟩ hS.2.2 (Nat.le_of_ble_eq_true rfl) (Nat.le_of_ble_eq_true rfl) dX9_need_25
    · skip
      have tc_4 : ¬ v2.toInt < 0 := fun h => c_4 ((fa_lt _ _).mpr h)
      refine lv_iload_n hx hb dX9_need_16 rfl (lv_at hl 3 rfl) ?_
      refine lv_sipush (v := 1000) hx hb dX9_need_17 (by decide) ?_
      refine lv_icmp_le (tgt := 26) hx hb dX9_need_20 (by decide) (fun c_5 => ?_) (fun c_5 => ?_)
      · skip
        have tc_5 : v2.toInt ≤ 1000 := (fa_le _ _).mp c_5
        refine lv_aload_n hx hb dX9_need_26 rfl (lv_at hl 0 rfl) ?_
        refine t_getr cf_1 hx hb hts hown hK hT h_a (k := 2) (P := fun q => τ q = 3) rfl (fun _ h9 => h9) fl_X9_23 (fun _ h9 => h9) dX9_need_27 (fun q_6 eq_6 hq_6 => ?_)
        refine lv_aload_n hx hb dX9_need_30 rfl (lv_at hl 0 rfl) ?_
        refine t_getr cf_1 hx hb hts hown hK hT h_a (k := 10) (P := fun q => τ q = 7) rfl (fun _ h9 => h9) fl_X9_67 (fun _ h9 => h9) dX9_need_31 (fun q_7 eq_7 hq_7 => ?_)
        have w_8 : q_1 = q_7 := Option.some.inj (eq_1.symm.trans eq_7)
        subst w_8
        refine lv_iload_n hx hb dX9_need_34 rfl (lv_at hl 1 rfl) ?_
        refine lv_iload_n hx hb dX9_need_35 rfl (lv_at hl 2 rfl) ?_
        refine t_callv (runV (As := [.ref q_1, .int v0, .int v1]) (rest := []) ⟨hx, hb, hml, hown, hts⟩ (t_X8_gatherAlone l D cy base τ G q_6 hq_6 q_1 hq_1 v0 v1) sV_X9_184 hK (t_recv cf_3 hK hT hq_6) ⟨Nat.le_trans hZ hS.1, hT⟩ ⟨Nat.le_of_ble_eq_true rfl, Nat.le_of_ble_eq_true rfl⟩ rfl hl.1 rfl (Nat.le_of_ble_eq_true rfl) dX9_need_36 ⟨Nat.le_of_ble_eq_true rfl, Nat.le_of_ble_eq_true rfl⟩) hS (fun G_9 H locs hF_9 hr_9 hT hS => ?_)
        have hF := hF.tr hF_9 rfl
        refine lv_ldc2 (v := 1000000000000) hx hb hown (hts _ kl_X9_190) dX9_need_39 ?_
        refine lv_lstore (lv' := [(4, .long 1000000000000), (0, .ref a), (1, .int v0), (2, .int v1), (3, .int v2)]) hx hb dX9_need_42 hl (by decide) rfl (fun ls hl => ?_)
        refine lv_iconst (v := 0) hx hb dX9_need_44 (by decide) ?_
        refine lv_istore (lv' := [(6, .int 0), (4, .long 1000000000000), (0, .ref a), (1, .int v0), (2, .int v1), (3, .int v2)]) hx hb dX9_need_45 hl (by decide) rfl (fun ls hl => ?_)
        refine W.loop (σ := Int64 × Int32 × Gh) (fun w10 H locs ls => 0 ≤ w10.2.1.toInt ∧ w10.2.1.toInt ≤ 1000 ∧ Fr τ [3, 32, 36] G w10.2.2 ∧ TY D cy base τ w10.2.2 H ∧ va_S (RA base) s.heap H locs ∧ lv_has ls 7 [(4, .long w10.1), (6, .int w10.2.1), (0, .ref a), (1, .int v0), (2, .int v1), (3, .int v2)]) (fun w10 => (1000 - w10.2.1.toInt).toNat) ?_ ((1000000000000 : Int64), (0 : Int32), G_9) _ _ _ ⟨(by show 0 ≤ (0 : Int32).toInt; decide), (by show (0 : Int32).toInt ≤ 1000; decide), hF, hT, hS, lv_sub hl [1, 0, 2, 3, 4, 5] rfl⟩
        intro w10 H locs ls hI ih10
        obtain ⟨x10_4, x10_6, G_10⟩ := w10
        obtain ⟨i10_0, i10_1, hF, hT, hS, hl⟩ := hI
        have i10_0 : 0 ≤ x10_6.toInt := i10_0
        have i10_1 : x10_6.toInt ≤ 1000 := i10_1
        have hF : Fr τ [3, 32, 36] G G_10 := hF
        have hT : TY D cy base τ G_10 H := hT
        have hS : va_S (RA base) s.heap H locs := hS
        have hl : lv_has ls 7 [(4, .long x10_4), (6, .int x10_6), (0, .ref a), (1, .int v0), (2, .int v1), (3, .int v2)] := hl
        refine lv_iload hx hb dX9_need_47 (lv_at hl 1 rfl) ?_
        refine lv_sipush (v := 999) hx hb dX9_need_49 (by decide) ?_
        refine lv_icmp_gt (tgt := 90) hx hb dX9_need_52 (by decide) (fun c_11 => ?_) (fun c_11 => ?_)
        · skip
          have tc_11 : 999 < x10_6.toInt := (fa_lt _ _).mp c_11
          refine lv_iconst (v := (-1)) hx hb dX9_need_90 (by decide) ?_
          exact ret_i hx hb hr hlocks ⟨⟨hS.1, hS.2.1⟩, G_10, hF, ⟨_, rfl, trivial⟩, hT⟩ hS.2.2 (Nat.le_of_ble_eq_true rfl) (Nat.le_of_ble_eq_true rfl) dX9_need_91
        · skip
          have tc_11 : ¬ 999 < x10_6.toInt := fun h => c_11 ((fa_lt _ _).mpr h)
          refine lv_lload hx hb dX9_need_55 (lv_at hl 0 rfl) ?_
          refine lv_aload_n hx hb dX9_need_57 rfl (lv_at hl 2 rfl) ?_
          refine t_getr cf_1 hx hb hts hown hK hT h_a (k := 2) (P := fun q => τ q = 3) rfl (fun _ h9 => h9) fl_X9_23 (fun _ h9 => h9) dX9_need_58 (fun q_12 eq_12 hq_12 => ?_)
          have w_13 : q_6 = q_12 := Option.some.inj (eq_6.symm.trans ((hF.r h_a (by decide) rfl _).symm.trans eq_12))
          subst w_13
          refine lv_iload hx hb dX9_need_61 (lv_at hl 1 rfl) ?_
          refine pu_calll (runV (As := [.int x10_6]) (rest := [.long x10_4]) ⟨hx, hb, hml, hown, hts⟩ (t_X8_partsWanting l D cy base τ G_10 q_6 hq_6 x10_6) sV_X9_192 hK (t_recv cf_3 hK hT hq_6) ⟨Nat.le_trans hZ hS.1, hT⟩ ⟨Nat.le_of_ble_eq_true rfl, Nat.le_of_ble_eq_true rfl⟩ rfl hl.1 rfl (Nat.le_of_ble_eq_true rfl) dX9_need_63 ⟨Nat.le_of_ble_eq_true rfl, Nat.le_of_ble_eq_true rfl⟩) (fun r_14 hr_14 => ?_)
          refine lv_lsub hx hb dX9_need_66 ?_
          refine lv_topl (fun z_15 ez_15 => ?_)
          refine lv_lstore (lv' := [(4, .long z_15), (6, .int x10_6), (0, .ref a), (1, .int v0), (2, .int v1), (3, .int v2)]) hx hb dX9_need_67 hl (by decide) rfl (fun ls hl => ?_)
          refine lv_lload hx hb dX9_need_69 (lv_at hl 0 rfl) ?_
          refine lv_iload_n hx hb dX9_need_71 rfl (lv_at hl 5 rfl) ?_
          refine lv_i2l hx hb dX9_need_72 rfl ?_
          refine lv_topl (fun z_16 ez_16 => ?_)
          have tz_16 : z_16.toInt = v2.toInt := by rw [ez_16]; exact wide_t v2
          refine lv_ldc2 (v := 1000000000) hx hb hown (hts _ kl_X9_158) dX9_need_73 ?_
          refine lv_lmul hx hb dX9_need_76 ?_
          refine lv_topl (fun z_17 ez_17 => ?_)
          have tz_17 : z_17.toInt = z_16.toInt * 1000000000 := mul_t64 ez_17 (show -9223372036854775808 ≤ z_16.toInt * 1000000000 by omega) (show z_16.toInt * 1000000000 < 9223372036854775808 by omega)
          refine W.lcmp hx hb dX9_need_77 ?_
          refine lv_topi (fun z_18 ez_18 => ?_)
          have tz_18 : (z_18.toInt < 0 ↔ z_15.toInt < z_17.toInt) ∧ (0 < z_18.toInt ↔ z_17.toInt < z_15.toInt) ∧ -1 ≤ z_18.toInt ∧ z_18.toInt ≤ 1 := cmp_t ez_18
          refine lv_if_gt (tgt := 84) hx hb dX9_need_78 (by decide) (fun c_19 => ?_) (fun c_19 => ?_)
          · skip
            have tc_19 : 0 < z_18.toInt := (fa_lt _ _).mp c_19
            obtain ⟨z_20, ez_20⟩ : ∃ y : Int32, y = x10_6 + 1 := ⟨_, rfl⟩
            have tz_20 : z_20.toInt = x10_6.toInt + 1 := add_t ez_20 (show -2147483648 ≤ x10_6.toInt + 1 by omega) (show x10_6.toInt + 1 < 2147483648 by omega)
            refine lv_iinc (v := z_20) (lv' := [(6, .int z_20), (4, .long z_15), (0, .ref a), (1, .int v0), (2, .int v1), (3, .int v2)]) hx hb dX9_need_84 hl (k := 1) rfl (by rw [ez_20]; rfl) (by decide) rfl (fun ls hl => ?_)
            refine lv_goto (tgt := 47) hx hb dX9_need_87 (by decide) ?_
            exact ih10 (z_15, z_20, G_10) _ _ _ (by show (1000 - z_20.toInt).toNat < (1000 - x10_6.toInt).toNat; omega) ⟨(by show 0 ≤ z_20.toInt; omega), (by show z_20.toInt ≤ 1000; omega), hF, hT, hS, lv_sub hl [1, 0, 2, 3, 4, 5] rfl⟩
          · skip
            have tc_19 : ¬ 0 < z_18.toInt := fun h => c_19 ((fa_lt _ _).mpr h)
            refine lv_iload hx hb dX9_need_81 (lv_at hl 1 rfl) ?_
            exact ret_i hx hb hr hlocks ⟨⟨hS.1, hS.2.1⟩, G_10, hF, ⟨_, rfl, trivial⟩, hT⟩ hS.2.2 (Nat.le_of_ble_eq_true rfl) (Nat.le_of_ble_eq_true rfl) dX9_need_83
      · skip
        have tc_5 : ¬ v2.toInt ≤ 1000 := fun h => c_5 ((fa_le _ _).mpr h)
        have mc_5 : v2.toInt ≤ 2147483647 := max_t v2
        refine lv_bipush (v := (-2)) hx hb dX9_need_23 (by decide) ?_
        exact ret_i hx hb hr hlocks ⟨⟨hS.1, hS.2.1⟩, G, hF, ⟨_, rfl, trivial⟩, hT⟩ hS.2.2 (Nat.le_of_ble_eq_true rfl) (Nat.le_of_ble_eq_true rfl) dX9_need_25
  · skip
    have er_2 := hr_2_1
    subst er_2
    refine W.eq (g2 := F0 m 9 ls [.int 0]) rfl ?_
    refine lv_if_eq (tgt := 23) hx hb dX9_need_9 (by decide) (fun _ => ?_) (fun c_21 => absurd (by decide) c_21)
    refine lv_bipush (v := (-2)) hx hb dX9_need_23 (by decide) ?_
    exact ret_i hx hb hr hlocks ⟨⟨hS.1, hS.2.1⟩, G, hF, ⟨_, rfl, trivial⟩, hT⟩ hS.2.2 (Nat.le_of_ble_eq_true rfl) (Nat.le_of_ble_eq_true rfl) dX9_need_25
set_option maxHeartbeats 4000000 in
set_option maxRecDepth 100000 in
theorem t_X9_packed (l : Launch) (D : va_G) (cy : Nat → ClassId) (base : Nat) (τ : Nat → Nat) (G : Gh) (a : Nat) (h_a : τ a = 1) (v0 : Int32) : MM l yX9_packed cX9_packed 2 (some .long) 5 0 0 D cy [.ref a, .int v0] (PT D cy base τ G) (QT D cy base τ G [3, 32, 36, 37, 38] (fun v g => ∃ r : Int64, v = some (.long r) ∧ (True))) (RA base) := by
  refine MM.of (by decide) (Nat.le_of_ble_eq_true rfl) ?_
  intro p e s m below meth c C hPT ls hl
  obtain ⟨hx, hb, hr, hml, hown, hts, hlocks, hK, hnm⟩ := C
  obtain ⟨hZ, hT⟩ := hPT
  have hS : va_S (RA base) s.heap s.heap [] := va_S.rf
  have hF : Fr τ [3, 32, 36, 37, 38] G G := Fr.rf
  have hl : lv_has ls 2 [(0, .ref a), (1, .int v0)] := hl
  refine lv_aload_n hx hb dX9_packed_0 rfl (lv_at hl 0 rfl) ?_
  refine t_getr cf_1 hx hb hts hown hK hT h_a (k := 10) (P := fun q => τ q = 7) rfl (fun _ h9 => h9) fl_X9_67 (fun _ h9 => h9) dX9_packed_1 (fun q_1 eq_1 hq_1 => ?_)
  refine lv_iload_n hx hb dX9_packed_4 rfl (lv_at hl 1 rfl) ?_
  refine pu_calli (runV (As := [.int v0]) (rest := []) ⟨hx, hb, hml, hown, hts⟩ (t_X2_hasValley l D cy base τ G q_1 hq_1 v0) sV_X9_99 hK (t_recv cf_7 hK hT hq_1) ⟨Nat.le_trans hZ hS.1, hT⟩ ⟨Nat.le_of_ble_eq_true rfl, Nat.le_of_ble_eq_true rfl⟩ rfl hl.1 rfl (Nat.le_of_ble_eq_true rfl) dX9_packed_5 ⟨Nat.le_of_ble_eq_true rfl, Nat.le_of_ble_eq_true rfl⟩) (fun r_2 hr_2 => ?_)
  have hr_2_c := hr_2
  rcases hr_2_c with hr_2_0 | hr_2_1
  · skip
    obtain ⟨er_2, hr_2_0_f0, hr_2_0_f1⟩ := hr_2_0
    have hr_2_0_f0 : 0 ≤ v0.toInt := hr_2_0_f0
    have hr_2_0_f1 : v0.toInt ≤ 5 := hr_2_0_f1
    subst er_2
    refine W.eq (g2 := F0 m 8 ls [.int 1]) rfl ?_
    refine lv_if_ne (tgt := 15) hx hb dX9_packed_8 (by decide) (fun _ => ?_) (fun c_3 => absurd c_3 (by decide))
    refine lv_aload_n hx hb dX9_packed_15 rfl (lv_at hl 0 rfl) ?_
    refine t_getr cf_1 hx hb hts hown hK hT h_a (k := 2) (P := fun q => τ q = 3) rfl (fun _ h9 => h9) fl_X9_23 (fun _ h9 => h9) dX9_packed_16 (fun q_4 eq_4 hq_4 => ?_)
    refine lv_aload_n hx hb dX9_packed_19 rfl (lv_at hl 0 rfl) ?_
    refine t_getr cf_1 hx hb hts hown hK hT h_a (k := 10) (P := fun q => τ q = 7) rfl (fun _ h9 => h9) fl_X9_67 (fun _ h9 => h9) dX9_packed_20 (fun q_5 eq_5 hq_5 => ?_)
    have w_6 : q_1 = q_5 := Option.some.inj (eq_1.symm.trans eq_5)
    subst w_6
    refine lv_iload_n hx hb dX9_packed_23 rfl (lv_at hl 1 rfl) ?_
    refine t_calll (runV (As := [.ref q_1, .int v0]) (rest := []) ⟨hx, hb, hml, hown, hts⟩ (t_X8_packRoom l D cy base τ G q_4 hq_4 q_1 hq_1 v0) sV_X9_195 hK (t_recv cf_3 hK hT hq_4) ⟨Nat.le_trans hZ hS.1, hT⟩ ⟨Nat.le_of_ble_eq_true rfl, Nat.le_of_ble_eq_true rfl⟩ rfl hl.1 rfl (Nat.le_of_ble_eq_true rfl) dX9_packed_24 ⟨Nat.le_of_ble_eq_true rfl, Nat.le_of_ble_eq_true rfl⟩) hS (fun r_7 G_7 H locs hF_7 hr_7 hT hS => ?_)
    have hF := hF.tr hF_7 rfl
    refine lv_ldc2 (v := 1000000000) hx hb hown (hts _ kl_X9_158) dX9_packed_27 ?_
    refine lv_ldiv hx hb dX9_packed_30 (by decide) ?_
    refine lv_topl (fun z_8 ez_8 => ?_)
    exact ret_l hx hb hr hlocks ⟨⟨hS.1, hS.2.1⟩, G_7, hF, ⟨_, rfl, trivial⟩, hT⟩ hS.2.2 (Nat.le_of_ble_eq_true rfl) (Nat.le_of_ble_eq_true rfl) dX9_packed_31
  · skip
    have er_2 := hr_2_1
    subst er_2
    refine W.eq (g2 := F0 m 8 ls [.int 0]) rfl ?_
    refine lv_if_ne (tgt := 15) hx hb dX9_packed_8 (by decide) (fun c_9 => absurd rfl c_9) (fun _ => ?_)
    refine lv_ldc2 (v := (-2)) hx hb hown (hts _ kl_X9_106) dX9_packed_11 ?_
    exact ret_l hx hb hr hlocks ⟨⟨hS.1, hS.2.1⟩, G, hF, ⟨_, rfl, trivial⟩, hT⟩ hS.2.2 (Nat.le_of_ble_eq_true rfl) (Nat.le_of_ble_eq_true rfl) dX9_packed_14
set_option maxHeartbeats 4000000 in
set_option maxRecDepth 100000 in
theorem t_X9_pack (l : Launch) (D : va_G) (cy : Nat → ClassId) (base : Nat) (τ : Nat → Nat) (G : Gh) (a : Nat) (h_a : τ a = 1) (v0 : Int32) (v1 : Int32) : MM l yX9_pack cX9_pack 3 (some .int) 5 0 0 D cy [.ref a, .int v0, .int v1] (PT D cy base τ G) (QT D cy base τ G [3, 32, 36, 37, 38] (fun v g => ∃ r : Int32, v = some (.int r) ∧ (True))) (RA base) := by
  refine MM.of (by decide) (Nat.le_of_ble_eq_true rfl) ?_
  intro p e s m below meth c C hPT ls hl
  obtain ⟨hx, hb, hr, hml, hown, hts, hlocks, hK, hnm⟩ := C
  obtain ⟨hZ, hT⟩ := hPT
  have hS : va_S (RA base) s.heap s.heap [] := va_S.rf
  have hF : Fr τ [3, 32, 36, 37, 38] G G := Fr.rf
  have hl : lv_has ls 3 [(0, .ref a), (1, .int v0), (2, .int v1)] := hl
  refine lv_aload_n hx hb dX9_pack_0 rfl (lv_at hl 0 rfl) ?_
  refine t_getr cf_1 hx hb hts hown hK hT h_a (k := 10) (P := fun q => τ q = 7) rfl (fun _ h9 => h9) fl_X9_67 (fun _ h9 => h9) dX9_pack_1 (fun q_1 eq_1 hq_1 => ?_)
  refine lv_iload_n hx hb dX9_pack_4 rfl (lv_at hl 1 rfl) ?_
  refine lv_iload_n hx hb dX9_pack_5 rfl (lv_at hl 2 rfl) ?_
  refine pu_calli (runV (As := [.int v0, .int v1]) (rest := []) ⟨hx, hb, hml, hown, hts⟩ (t_X2_hasStore l D cy base τ G q_1 hq_1 v0 v1) sV_X9_160 hK (t_recv cf_7 hK hT hq_1) ⟨Nat.le_trans hZ hS.1, hT⟩ ⟨Nat.le_of_ble_eq_true rfl, Nat.le_of_ble_eq_true rfl⟩ rfl hl.1 rfl (Nat.le_of_ble_eq_true rfl) dX9_pack_6 ⟨Nat.le_of_ble_eq_true rfl, Nat.le_of_ble_eq_true rfl⟩) (fun r_2 hr_2 => ?_)
  have hr_2_c := hr_2
  rcases hr_2_c with hr_2_0 | hr_2_1
  · skip
    obtain ⟨er_2, hr_2_0_f0, hr_2_0_f1, hr_2_0_f2, hr_2_0_f3⟩ := hr_2_0
    have hr_2_0_f0 : 0 ≤ v0.toInt := hr_2_0_f0
    have hr_2_0_f1 : v0.toInt ≤ 5 := hr_2_0_f1
    have hr_2_0_f2 : 0 ≤ v1.toInt := hr_2_0_f2
    have hr_2_0_f3 : v1.toInt ≤ 2 := hr_2_0_f3
    subst er_2
    refine W.eq (g2 := F0 m 9 ls [.int 1]) rfl ?_
    refine lv_if_ne (tgt := 15) hx hb dX9_pack_9 (by decide) (fun _ => ?_) (fun c_3 => absurd c_3 (by decide))
    refine lv_aload_n hx hb dX9_pack_15 rfl (lv_at hl 0 rfl) ?_
    refine t_getr cf_1 hx hb hts hown hK hT h_a (k := 2) (P := fun q => τ q = 3) rfl (fun _ h9 => h9) fl_X9_23 (fun _ h9 => h9) dX9_pack_16 (fun q_4 eq_4 hq_4 => ?_)
    refine lv_aload_n hx hb dX9_pack_19 rfl (lv_at hl 0 rfl) ?_
    refine t_getr cf_1 hx hb hts hown hK hT h_a (k := 10) (P := fun q => τ q = 7) rfl (fun _ h9 => h9) fl_X9_67 (fun _ h9 => h9) dX9_pack_20 (fun q_5 eq_5 hq_5 => ?_)
    have w_6 : q_1 = q_5 := Option.some.inj (eq_1.symm.trans eq_5)
    subst w_6
    refine lv_iload_n hx hb dX9_pack_23 rfl (lv_at hl 1 rfl) ?_
    refine t_calll (runV (As := [.ref q_1, .int v0]) (rest := []) ⟨hx, hb, hml, hown, hts⟩ (t_X8_packRoom l D cy base τ G q_4 hq_4 q_1 hq_1 v0) sV_X9_195 hK (t_recv cf_3 hK hT hq_4) ⟨Nat.le_trans hZ hS.1, hT⟩ ⟨Nat.le_of_ble_eq_true rfl, Nat.le_of_ble_eq_true rfl⟩ rfl hl.1 rfl (Nat.le_of_ble_eq_true rfl) dX9_pack_24 ⟨Nat.le_of_ble_eq_true rfl, Nat.le_of_ble_eq_true rfl⟩) hS (fun r_7 G_7 H locs hF_7 hr_7 hT hS => ?_)
    have hF := hF.tr hF_7 rfl
    refine lv_pop2_2 hx hb dX9_pack_27 rfl ?_
    refine lv_aload_n hx hb dX9_pack_28 rfl (lv_at hl 0 rfl) ?_
    refine t_getr cf_1 hx hb hts hown hK hT h_a (k := 2) (P := fun q => τ q = 3) rfl (fun _ h9 => h9) fl_X9_23 (fun _ h9 => h9) dX9_pack_29 (fun q_8 eq_8 hq_8 => ?_)
    have w_9 : q_4 = q_8 := Option.some.inj (eq_4.symm.trans ((hF.r h_a (by decide) rfl _).symm.trans eq_8))
    subst w_9
    refine lv_iload_n hx hb dX9_pack_32 rfl (lv_at hl 2 rfl) ?_
    refine pu_calli (runV (As := [.int v1]) (rest := []) ⟨hx, hb, hml, hown, hts⟩ (t_X8_packedSacks l D cy base τ G_7 q_4 hq_4 v1) sV_X9_199 hK (t_recv cf_3 hK hT hq_4) ⟨Nat.le_trans hZ hS.1, hT⟩ ⟨Nat.le_of_ble_eq_true rfl, Nat.le_of_ble_eq_true rfl⟩ rfl hl.1 rfl (Nat.le_of_ble_eq_true rfl) dX9_pack_33 ⟨Nat.le_of_ble_eq_true rfl, Nat.le_of_ble_eq_true rfl⟩) (fun r_10 hr_10 => ?_)
    exact ret_i hx hb hr hlocks ⟨⟨hS.1, hS.2.1⟩, G_7, hF, ⟨_, rfl, trivial⟩, hT⟩ hS.2.2 (Nat.le_of_ble_eq_true rfl) (Nat.le_of_ble_eq_true rfl) dX9_pack_36
  · skip
    have er_2 := hr_2_1
    subst er_2
    refine W.eq (g2 := F0 m 9 ls [.int 0]) rfl ?_
    refine lv_if_ne (tgt := 15) hx hb dX9_pack_9 (by decide) (fun c_11 => absurd rfl c_11) (fun _ => ?_)
    refine lv_bipush (v := (-2)) hx hb dX9_pack_12 (by decide) ?_
    exact ret_i hx hb hr hlocks ⟨⟨hS.1, hS.2.1⟩, G, hF, ⟨_, rfl, trivial⟩, hT⟩ hS.2.2 (Nat.le_of_ble_eq_true rfl) (Nat.le_of_ble_eq_true rfl) dX9_pack_14
set_option maxHeartbeats 4000000 in
set_option maxRecDepth 100000 in
theorem t_X9_gap (l : Launch) (D : va_G) (cy : Nat → ClassId) (base : Nat) (τ : Nat → Nat) (G : Gh) (a : Nat) (h_a : τ a = 1) (v0 : Int32) : MM l yX9_gap cX9_gap 7 (some .long) 5 0 0 D cy [.ref a, .int v0] (PT D cy base τ G) (QT D cy base τ G [3, 32, 36, 37, 38] (fun v g => ∃ r : Int64, v = some (.long r) ∧ (True))) (RA base) := by
  refine MM.of (by decide) (Nat.le_of_ble_eq_true rfl) ?_
  intro p e s m below meth c C hPT ls hl
  obtain ⟨hx, hb, hr, hml, hown, hts, hlocks, hK, hnm⟩ := C
  obtain ⟨hZ, hT⟩ := hPT
  have hS : va_S (RA base) s.heap s.heap [] := va_S.rf
  have hF : Fr τ [3, 32, 36, 37, 38] G G := Fr.rf
  have hl : lv_has ls 7 [(0, .ref a), (1, .int v0)] := hl
  refine lv_aload_n hx hb dX9_gap_0 rfl (lv_at hl 0 rfl) ?_
  refine t_getr cf_1 hx hb hts hown hK hT h_a (k := 10) (P := fun q => τ q = 7) rfl (fun _ h9 => h9) fl_X9_67 (fun _ h9 => h9) dX9_gap_1 (fun q_1 eq_1 hq_1 => ?_)
  refine lv_iload_n hx hb dX9_gap_4 rfl (lv_at hl 1 rfl) ?_
  refine pu_calli (runV (As := [.int v0]) (rest := []) ⟨hx, hb, hml, hown, hts⟩ (t_X2_hasValley l D cy base τ G q_1 hq_1 v0) sV_X9_99 hK (t_recv cf_7 hK hT hq_1) ⟨Nat.le_trans hZ hS.1, hT⟩ ⟨Nat.le_of_ble_eq_true rfl, Nat.le_of_ble_eq_true rfl⟩ rfl hl.1 rfl (Nat.le_of_ble_eq_true rfl) dX9_gap_5 ⟨Nat.le_of_ble_eq_true rfl, Nat.le_of_ble_eq_true rfl⟩) (fun r_2 hr_2 => ?_)
  have hr_2_c := hr_2
  rcases hr_2_c with hr_2_0 | hr_2_1
  · skip
    obtain ⟨er_2, hr_2_0_f0, hr_2_0_f1⟩ := hr_2_0
    have hr_2_0_f0 : 0 ≤ v0.toInt := hr_2_0_f0
    have hr_2_0_f1 : v0.toInt ≤ 5 := hr_2_0_f1
    subst er_2
    refine W.eq (g2 := F0 m 8 ls [.int 1]) rfl ?_
    refine lv_if_ne (tgt := 15) hx hb dX9_gap_8 (by decide) (fun _ => ?_) (fun c_3 => absurd c_3 (by decide))
    refine lv_aload_n hx hb dX9_gap_15 rfl (lv_at hl 0 rfl) ?_
    refine t_getr cf_1 hx hb hts hown hK hT h_a (k := 2) (P := fun q => τ q = 3) rfl (fun _ h9 => h9) fl_X9_23 (fun _ h9 => h9) dX9_gap_16 (fun q_4 eq_4 hq_4 => ?_)
    refine lv_aload_n hx hb dX9_gap_19 rfl (lv_at hl 0 rfl) ?_
    refine t_getr cf_1 hx hb hts hown hK hT h_a (k := 10) (P := fun q => τ q = 7) rfl (fun _ h9 => h9) fl_X9_67 (fun _ h9 => h9) dX9_gap_20 (fun q_5 eq_5 hq_5 => ?_)
    have w_6 : q_1 = q_5 := Option.some.inj (eq_1.symm.trans eq_5)
    subst w_6
    refine lv_iload_n hx hb dX9_gap_23 rfl (lv_at hl 1 rfl) ?_
    refine t_calll (runV (As := [.ref q_1, .int v0]) (rest := []) ⟨hx, hb, hml, hown, hts⟩ (t_X8_packRoom l D cy base τ G q_4 hq_4 q_1 hq_1 v0) sV_X9_195 hK (t_recv cf_3 hK hT hq_4) ⟨Nat.le_trans hZ hS.1, hT⟩ ⟨Nat.le_of_ble_eq_true rfl, Nat.le_of_ble_eq_true rfl⟩ rfl hl.1 rfl (Nat.le_of_ble_eq_true rfl) dX9_gap_24 ⟨Nat.le_of_ble_eq_true rfl, Nat.le_of_ble_eq_true rfl⟩) hS (fun r_7 G_7 H locs hF_7 hr_7 hT hS => ?_)
    have hF := hF.tr hF_7 rfl
    refine lv_lstore_n (lv' := [(2, .long r_7), (0, .ref a), (1, .int v0)]) hx hb dX9_gap_27 rfl hl (by decide) rfl (fun ls hl => ?_)
    refine lv_lconst (v := 0) hx hb dX9_gap_28 (by decide) ?_
    refine lv_lstore (lv' := [(4, .long 0), (2, .long r_7), (0, .ref a), (1, .int v0)]) hx hb dX9_gap_29 hl (by decide) rfl (fun ls hl => ?_)
    refine lv_iconst (v := 0) hx hb dX9_gap_31 (by decide) ?_
    refine lv_istore (lv' := [(6, .int 0), (4, .long 0), (2, .long r_7), (0, .ref a), (1, .int v0)]) hx hb dX9_gap_32 hl (by decide) rfl (fun ls hl => ?_)
    refine W.loop (σ := Int64 × Int32 × Gh) (fun w8 H locs ls => 0 ≤ w8.2.1.toInt ∧ w8.2.1.toInt ≤ 3 ∧ Fr τ [3, 32, 36, 37, 38] G w8.2.2 ∧ TY D cy base τ w8.2.2 H ∧ va_S (RA base) s.heap H locs ∧ lv_has ls 7 [(4, .long w8.1), (6, .int w8.2.1), (2, .long r_7), (0, .ref a), (1, .int v0)]) (fun w8 => (3 - w8.2.1.toInt).toNat) ?_ ((0 : Int64), (0 : Int32), G_7) _ _ _ ⟨(by show 0 ≤ (0 : Int32).toInt; decide), (by show (0 : Int32).toInt ≤ 3; decide), hF, hT, hS, lv_sub hl [1, 0, 2, 3, 4] rfl⟩
    intro w8 H locs ls hI ih8
    obtain ⟨x8_4, x8_6, G_8⟩ := w8
    obtain ⟨i8_0, i8_1, hF, hT, hS, hl⟩ := hI
    have i8_0 : 0 ≤ x8_6.toInt := i8_0
    have i8_1 : x8_6.toInt ≤ 3 := i8_1
    have hF : Fr τ [3, 32, 36, 37, 38] G G_8 := hF
    have hT : TY D cy base τ G_8 H := hT
    have hS : va_S (RA base) s.heap H locs := hS
    have hl : lv_has ls 7 [(4, .long x8_4), (6, .int x8_6), (2, .long r_7), (0, .ref a), (1, .int v0)] := hl
    refine lv_iload hx hb dX9_gap_34 (lv_at hl 1 rfl) ?_
    refine lv_aload_n hx hb dX9_gap_36 rfl (lv_at hl 3 rfl) ?_
    refine t_getr cf_1 hx hb hts hown hK hT h_a (k := 10) (P := fun q => τ q = 7) rfl (fun _ h9 => h9) fl_X9_67 (fun _ h9 => h9) dX9_gap_37 (fun q_9 eq_9 hq_9 => ?_)
    have w_10 : q_1 = q_9 := Option.some.inj (eq_1.symm.trans ((hF.r h_a (by decide) rfl _).symm.trans eq_9))
    subst w_10
    refine t_geti cf_7 hx hb hts hown hK hT hq_1 (k := 5) rfl fl_X9_202 (fun _ h9 => h9) dX9_gap_40 (fun z_11 ez_11 rz_11 => ?_)
    have ez_11 : z_11 = G_8.1 q_1 5 := ez_11
    have rz_11 : 0 ≤ z_11.toInt ∧ z_11.toInt ≤ 3 := rz_11
    have ez_11 : z_11 = G.1 q_1 5 := ez_11.trans (hF.i hq_1 (by decide) rfl _)
    refine lv_icmp_ge (tgt := 66) hx hb dX9_gap_43 (by decide) (fun c_12 => ?_) (fun c_12 => ?_)
    · skip
      have tc_12 : z_11.toInt ≤ x8_6.toInt := (fa_le _ _).mp c_12
      refine lv_lload_n hx hb dX9_gap_66 rfl (lv_at hl 2 rfl) ?_
      refine lv_lload hx hb dX9_gap_67 (lv_at hl 0 rfl) ?_
      refine lv_lsub hx hb dX9_gap_69 ?_
      refine lv_topl (fun z_13 ez_13 => ?_)
      refine lv_ldc2 (v := 1000000000) hx hb hown (hts _ kl_X9_158) dX9_gap_70 ?_
      refine lv_ldiv hx hb dX9_gap_73 (by decide) ?_
      refine lv_topl (fun z_14 ez_14 => ?_)
      exact ret_l hx hb hr hlocks ⟨⟨hS.1, hS.2.1⟩, G_8, hF, ⟨_, rfl, trivial⟩, hT⟩ hS.2.2 (Nat.le_of_ble_eq_true rfl) (Nat.le_of_ble_eq_true rfl) dX9_gap_74
    · skip
      have tc_12 : ¬ z_11.toInt ≤ x8_6.toInt := fun h => c_12 ((fa_le _ _).mpr h)
      refine lv_lload hx hb dX9_gap_46 (lv_at hl 0 rfl) ?_
      refine lv_aload_n hx hb dX9_gap_48 rfl (lv_at hl 3 rfl) ?_
      refine t_getr cf_1 hx hb hts hown hK hT h_a (k := 2) (P := fun q => τ q = 3) rfl (fun _ h9 => h9) fl_X9_23 (fun _ h9 => h9) dX9_gap_49 (fun q_15 eq_15 hq_15 => ?_)
      have w_16 : q_4 = q_15 := Option.some.inj (eq_4.symm.trans ((hF.r h_a (by decide) rfl _).symm.trans eq_15))
      subst w_16
      refine lv_iload hx hb dX9_gap_52 (lv_at hl 1 rfl) ?_
      refine pu_calll (runV (As := [.int x8_6]) (rest := [.long x8_4]) ⟨hx, hb, hml, hown, hts⟩ (t_X8_leastWhole l D cy base τ G_8 q_4 hq_4 x8_6) sV_X9_205 hK (t_recv cf_3 hK hT hq_4) ⟨Nat.le_trans hZ hS.1, hT⟩ ⟨Nat.le_of_ble_eq_true rfl, Nat.le_of_ble_eq_true rfl⟩ rfl hl.1 rfl (Nat.le_of_ble_eq_true rfl) dX9_gap_54 ⟨Nat.le_of_ble_eq_true rfl, Nat.le_of_ble_eq_true rfl⟩) (fun r_17 hr_17 => ?_)
      refine lv_ladd hx hb dX9_gap_57 ?_
      refine lv_topl (fun z_18 ez_18 => ?_)
      refine lv_lstore (lv' := [(4, .long z_18), (6, .int x8_6), (2, .long r_7), (0, .ref a), (1, .int v0)]) hx hb dX9_gap_58 hl (by decide) rfl (fun ls hl => ?_)
      obtain ⟨z_19, ez_19⟩ : ∃ y : Int32, y = x8_6 + 1 := ⟨_, rfl⟩
      have tz_19 : z_19.toInt = x8_6.toInt + 1 := add_t ez_19 (show -2147483648 ≤ x8_6.toInt + 1 by omega) (show x8_6.toInt + 1 < 2147483648 by omega)
      refine lv_iinc (v := z_19) (lv' := [(6, .int z_19), (4, .long z_18), (2, .long r_7), (0, .ref a), (1, .int v0)]) hx hb dX9_gap_60 hl (k := 1) rfl (by rw [ez_19]; rfl) (by decide) rfl (fun ls hl => ?_)
      refine lv_goto (tgt := 34) hx hb dX9_gap_63 (by decide) ?_
      exact ih8 (z_18, z_19, G_8) _ _ _ (by show (3 - z_19.toInt).toNat < (3 - x8_6.toInt).toNat; omega) ⟨(by show 0 ≤ z_19.toInt; omega), (by show z_19.toInt ≤ 3; omega), hF, hT, hS, lv_sub hl [1, 0, 2, 3, 4] rfl⟩
  · skip
    have er_2 := hr_2_1
    subst er_2
    refine W.eq (g2 := F0 m 8 ls [.int 0]) rfl ?_
    refine lv_if_ne (tgt := 15) hx hb dX9_gap_8 (by decide) (fun c_20 => absurd rfl c_20) (fun _ => ?_)
    refine lv_ldc2 (v := (-2)) hx hb hown (hts _ kl_X9_106) dX9_gap_11 ?_
    exact ret_l hx hb hr hlocks ⟨⟨hS.1, hS.2.1⟩, G, hF, ⟨_, rfl, trivial⟩, hT⟩ hS.2.2 (Nat.le_of_ble_eq_true rfl) (Nat.le_of_ble_eq_true rfl) dX9_gap_14
set_option maxHeartbeats 4000000 in
set_option maxRecDepth 100000 in
theorem t_X9_late (l : Launch) (D : va_G) (cy : Nat → ClassId) (base : Nat) (τ : Nat → Nat) (G : Gh) (a : Nat) (h_a : τ a = 1) (v0 : Int32) (v1 : Int32) : MM l yX9_late cX9_late 3 (some .long) 5 0 0 D cy [.ref a, .int v0, .int v1] (PT D cy base τ G) (QT D cy base τ G [4, 30, 31, 1004] (fun v g => ∃ r : Int64, v = some (.long r) ∧ (True))) (RA base) := by
  refine MM.of (by decide) (Nat.le_of_ble_eq_true rfl) ?_
  intro p e s m below meth c C hPT ls hl
  obtain ⟨hx, hb, hr, hml, hown, hts, hlocks, hK, hnm⟩ := C
  obtain ⟨hZ, hT⟩ := hPT
  have hS : va_S (RA base) s.heap s.heap [] := va_S.rf
  have hF : Fr τ [4, 30, 31, 1004] G G := Fr.rf
  have hl : lv_has ls 3 [(0, .ref a), (1, .int v0), (2, .int v1)] := hl
  refine lv_aload_n hx hb dX9_late_0 rfl (lv_at hl 0 rfl) ?_
  refine t_getr cf_1 hx hb hts hown hK hT h_a (k := 10) (P := fun q => τ q = 7) rfl (fun _ h9 => h9) fl_X9_67 (fun _ h9 => h9) dX9_late_1 (fun q_1 eq_1 hq_1 => ?_)
  refine lv_iload_n hx hb dX9_late_4 rfl (lv_at hl 1 rfl) ?_
  refine lv_iload_n hx hb dX9_late_5 rfl (lv_at hl 2 rfl) ?_
  refine pu_calli (runV (As := [.int v0, .int v1]) (rest := []) ⟨hx, hb, hml, hown, hts⟩ (t_X2_hasStore l D cy base τ G q_1 hq_1 v0 v1) sV_X9_160 hK (t_recv cf_7 hK hT hq_1) ⟨Nat.le_trans hZ hS.1, hT⟩ ⟨Nat.le_of_ble_eq_true rfl, Nat.le_of_ble_eq_true rfl⟩ rfl hl.1 rfl (Nat.le_of_ble_eq_true rfl) dX9_late_6 ⟨Nat.le_of_ble_eq_true rfl, Nat.le_of_ble_eq_true rfl⟩) (fun r_2 hr_2 => ?_)
  have hr_2_c := hr_2
  rcases hr_2_c with hr_2_0 | hr_2_1
  · skip
    obtain ⟨er_2, hr_2_0_f0, hr_2_0_f1, hr_2_0_f2, hr_2_0_f3⟩ := hr_2_0
    have hr_2_0_f0 : 0 ≤ v0.toInt := hr_2_0_f0
    have hr_2_0_f1 : v0.toInt ≤ 5 := hr_2_0_f1
    have hr_2_0_f2 : 0 ≤ v1.toInt := hr_2_0_f2
    have hr_2_0_f3 : v1.toInt ≤ 2 := hr_2_0_f3
    subst er_2
    refine W.eq (g2 := F0 m 9 ls [.int 1]) rfl ?_
    refine lv_if_ne (tgt := 16) hx hb dX9_late_9 (by decide) (fun _ => ?_) (fun c_3 => absurd c_3 (by decide))
    refine lv_aload_n hx hb dX9_late_16 rfl (lv_at hl 0 rfl) ?_
    refine t_getr cf_1 hx hb hts hown hK hT h_a (k := 3) (P := fun q => τ q = 4) rfl (fun _ h9 => h9) fl_X9_30 (fun _ h9 => h9) dX9_late_17 (fun q_4 eq_4 hq_4 => ?_)
    refine lv_aload_n hx hb dX9_late_20 rfl (lv_at hl 0 rfl) ?_
    refine t_getr cf_1 hx hb hts hown hK hT h_a (k := 10) (P := fun q => τ q = 7) rfl (fun _ h9 => h9) fl_X9_67 (fun _ h9 => h9) dX9_late_21 (fun q_5 eq_5 hq_5 => ?_)
    have w_6 : q_1 = q_5 := Option.some.inj (eq_1.symm.trans eq_5)
    subst w_6
    refine lv_iload_n hx hb dX9_late_24 rfl (lv_at hl 1 rfl) ?_
    refine lv_iload_n hx hb dX9_late_25 rfl (lv_at hl 2 rfl) ?_
    refine t_calll (runV (As := [.ref q_1, .int v0, .int v1]) (rest := []) ⟨hx, hb, hml, hown, hts⟩ (t_X3_leastFromFirst l D cy base τ G q_4 hq_4 q_1 hq_1 v0 v1) sV_X9_208 hK (t_recv cf_4 hK hT hq_4) ⟨Nat.le_trans hZ hS.1, hT⟩ ⟨Nat.le_of_ble_eq_true rfl, Nat.le_of_ble_eq_true rfl⟩ rfl hl.1 rfl (Nat.le_of_ble_eq_true rfl) dX9_late_26 ⟨Nat.le_of_ble_eq_true rfl, Nat.le_of_ble_eq_true rfl⟩) hS (fun r_7 G_7 H locs hF_7 hr_7 hT hS => ?_)
    have hF := hF.tr hF_7 rfl
    exact ret_l hx hb hr hlocks ⟨⟨hS.1, hS.2.1⟩, G_7, hF, ⟨_, rfl, trivial⟩, hT⟩ hS.2.2 (Nat.le_of_ble_eq_true rfl) (Nat.le_of_ble_eq_true rfl) dX9_late_29
  · skip
    have er_2 := hr_2_1
    subst er_2
    refine W.eq (g2 := F0 m 9 ls [.int 0]) rfl ?_
    refine lv_if_ne (tgt := 16) hx hb dX9_late_9 (by decide) (fun c_8 => absurd rfl c_8) (fun _ => ?_)
    refine lv_ldc2 (v := (-2)) hx hb hown (hts _ kl_X9_106) dX9_late_12 ?_
    exact ret_l hx hb hr hlocks ⟨⟨hS.1, hS.2.1⟩, G, hF, ⟨_, rfl, trivial⟩, hT⟩ hS.2.2 (Nat.le_of_ble_eq_true rfl) (Nat.le_of_ble_eq_true rfl) dX9_late_15
set_option maxHeartbeats 4000000 in
set_option maxRecDepth 100000 in
theorem t_X9_today (l : Launch) (D : va_G) (cy : Nat → ClassId) (base : Nat) (τ : Nat → Nat) (G : Gh) (a : Nat) (h_a : τ a = 1) (v0 : Int32) (v1 : Int32) (v2 : Int32) (v3 : Int32) (v4 : Int32) : MM l yX9_today cX9_today 6 (some .int) 5 0 0 D cy [.ref a, .int v0, .int v1, .int v2, .int v3, .int v4] (PT D cy base τ G) (QT D cy base τ G [4, 30, 31, 1004] (fun v g => ∃ r : Int32, v = some (.int r) ∧ (True))) (RA base) := by
  refine MM.of (by decide) (Nat.le_of_ble_eq_true rfl) ?_
  intro p e s m below meth c C hPT ls hl
  obtain ⟨hx, hb, hr, hml, hown, hts, hlocks, hK, hnm⟩ := C
  obtain ⟨hZ, hT⟩ := hPT
  have hS : va_S (RA base) s.heap s.heap [] := va_S.rf
  have hF : Fr τ [4, 30, 31, 1004] G G := Fr.rf
  have hl : lv_has ls 6 [(0, .ref a), (1, .int v0), (2, .int v1), (3, .int v2), (4, .int v3), (5, .int v4)] := hl
  refine lv_aload_n hx hb dX9_today_0 rfl (lv_at hl 0 rfl) ?_
  refine t_getr cf_1 hx hb hts hown hK hT h_a (k := 10) (P := fun q => τ q = 7) rfl (fun _ h9 => h9) fl_X9_67 (fun _ h9 => h9) dX9_today_1 (fun q_1 eq_1 hq_1 => ?_)
  refine lv_iload_n hx hb dX9_today_4 rfl (lv_at hl 1 rfl) ?_
  refine lv_iload_n hx hb dX9_today_5 rfl (lv_at hl 2 rfl) ?_
  refine pu_calli (runV (As := [.int v0, .int v1]) (rest := []) ⟨hx, hb, hml, hown, hts⟩ (t_X2_hasStore l D cy base τ G q_1 hq_1 v0 v1) sV_X9_160 hK (t_recv cf_7 hK hT hq_1) ⟨Nat.le_trans hZ hS.1, hT⟩ ⟨Nat.le_of_ble_eq_true rfl, Nat.le_of_ble_eq_true rfl⟩ rfl hl.1 rfl (Nat.le_of_ble_eq_true rfl) dX9_today_6 ⟨Nat.le_of_ble_eq_true rfl, Nat.le_of_ble_eq_true rfl⟩) (fun r_2 hr_2 => ?_)
  have hr_2_c := hr_2
  rcases hr_2_c with hr_2_0 | hr_2_1
  · skip
    obtain ⟨er_2, hr_2_0_f0, hr_2_0_f1, hr_2_0_f2, hr_2_0_f3⟩ := hr_2_0
    have hr_2_0_f0 : 0 ≤ v0.toInt := hr_2_0_f0
    have hr_2_0_f1 : v0.toInt ≤ 5 := hr_2_0_f1
    have hr_2_0_f2 : 0 ≤ v1.toInt := hr_2_0_f2
    have hr_2_0_f3 : v1.toInt ≤ 2 := hr_2_0_f3
    subst er_2
    refine W.eq (g2 := F0 m 9 ls [.int 1]) rfl ?_
    refine lv_if_eq (tgt := 36) hx hb dX9_today_9 (by decide) (fun c_3 => absurd c_3 (by decide)) (fun _ => ?_)
    refine lv_aload_n hx hb dX9_today_12 rfl (lv_at hl 0 rfl) ?_
    refine t_getr cf_1 hx hb hts hown hK hT h_a (k := 10) (P := fun q => τ q = 7) rfl (fun _ h9 => h9) fl_X9_67 (fun _ h9 => h9) dX9_today_13 (fun q_4 eq_4 hq_4 => ?_)
    have w_5 : q_1 = q_4 := Option.some.inj (eq_1.symm.trans eq_4)
    subst w_5
    refine lv_iload_n hx hb dX9_today_16 rfl (lv_at hl 3 rfl) ?_
    refine pu_calli (runV (As := [.int v2]) (rest := []) ⟨hx, hb, hml, hown, hts⟩ (t_X2_hasDay l D cy base τ G q_1 hq_1 v2) sV_X9_122 hK (t_recv cf_7 hK hT hq_1) ⟨Nat.le_trans hZ hS.1, hT⟩ ⟨Nat.le_of_ble_eq_true rfl, Nat.le_of_ble_eq_true rfl⟩ rfl hl.1 rfl (Nat.le_of_ble_eq_true rfl) dX9_today_17 ⟨Nat.le_of_ble_eq_true rfl, Nat.le_of_ble_eq_true rfl⟩) (fun r_6 hr_6 => ?_)
    have hr_6_c := hr_6
    rcases hr_6_c with hr_6_0 | hr_6_1
    · skip
      obtain ⟨er_6, hr_6_0_f0, hr_6_0_f1⟩ := hr_6_0
      have hr_6_0_f0 : 1 ≤ v2.toInt := hr_6_0_f0
      have hr_6_0_f1 : v2.toInt ≤ 60 := hr_6_0_f1
      subst er_6
      refine W.eq (g2 := F0 m 20 ls [.int 1]) rfl ?_
      refine lv_if_eq (tgt := 36) hx hb dX9_today_20 (by decide) (fun c_7 => absurd c_7 (by decide)) (fun _ => ?_)
      refine lv_iload hx hb dX9_today_23 (lv_at hl 5 rfl) ?_
      refine lv_if_lt (tgt := 36) hx hb dX9_today_25 (by decide) (fun c_8 => ?_) (fun c_8 => ?_)
      · skip
        have tc_8 : v4.toInt < 0 := (fa_lt _ _).mp c_8
        refine lv_bipush (v := (-2)) hx hb dX9_today_36 (by decide) ?_
        exact ret_i hx hb hr hlocks ⟨⟨hS.1, hS.2.1⟩, G, hF, ⟨_, rfl, trivial⟩, hT⟩ hS.2.2 (Nat.le_of_ble_eq_true rfl) (Nat.le_of_ble_eq_true rfl) dX9_today_38
      · skip
        have tc_8 : ¬ v4.toInt < 0 := fun h => c_8 ((fa_lt _ _).mpr h)
        refine lv_iload hx hb dX9_today_28 (lv_at hl 5 rfl) ?_
        refine lv_sipush (v := 600) hx hb dX9_today_30 (by decide) ?_
        refine lv_icmp_le (tgt := 39) hx hb dX9_today_33 (by decide) (fun c_9 => ?_) (fun c_9 => ?_)
        · skip
          have tc_9 : v4.toInt ≤ 600 := (fa_le _ _).mp c_9
          refine lv_aload_n hx hb dX9_today_39 rfl (lv_at hl 0 rfl) ?_
          refine t_getr cf_1 hx hb hts hown hK hT h_a (k := 3) (P := fun q => τ q = 4) rfl (fun _ h9 => h9) fl_X9_30 (fun _ h9 => h9) dX9_today_40 (fun q_10 eq_10 hq_10 => ?_)
          refine lv_aload_n hx hb dX9_today_43 rfl (lv_at hl 0 rfl) ?_
          refine t_getr cf_1 hx hb hts hown hK hT h_a (k := 10) (P := fun q => τ q = 7) rfl (fun _ h9 => h9) fl_X9_67 (fun _ h9 => h9) dX9_today_44 (fun q_11 eq_11 hq_11 => ?_)
          have w_12 : q_1 = q_11 := Option.some.inj (eq_1.symm.trans eq_11)
          subst w_12
          refine lv_iload_n hx hb dX9_today_47 rfl (lv_at hl 1 rfl) ?_
          refine lv_iload_n hx hb dX9_today_48 rfl (lv_at hl 2 rfl) ?_
          refine lv_iload hx hb dX9_today_49 (lv_at hl 5 rfl) ?_
          refine t_callv (runV (As := [.ref q_1, .int v0, .int v1, .int v4]) (rest := []) ⟨hx, hb, hml, hown, hts⟩ (t_X3_begin l D cy base τ G q_10 hq_10 q_1 hq_1 v0 v1 v4 ⟨by omega, by omega⟩) sV_X9_212 hK (t_recv cf_4 hK hT hq_10) ⟨Nat.le_trans hZ hS.1, hT⟩ ⟨Nat.le_of_ble_eq_true rfl, Nat.le_of_ble_eq_true rfl⟩ rfl hl.1 rfl (Nat.le_of_ble_eq_true rfl) dX9_today_51 ⟨Nat.le_of_ble_eq_true rfl, Nat.le_of_ble_eq_true rfl⟩) hS (fun G_13 H locs hF_13 hr_13 hT hS => ?_)
          have hF := hF.tr hF_13 rfl
          refine lv_aload_n hx hb dX9_today_54 rfl (lv_at hl 0 rfl) ?_
          refine t_getr cf_1 hx hb hts hown hK hT h_a (k := 3) (P := fun q => τ q = 4) rfl (fun _ h9 => h9) fl_X9_30 (fun _ h9 => h9) dX9_today_55 (fun q_14 eq_14 hq_14 => ?_)
          have w_15 : q_10 = q_14 := Option.some.inj (eq_10.symm.trans ((hF.r h_a (by decide) rfl _).symm.trans eq_14))
          subst w_15
          refine lv_iload_n hx hb dX9_today_58 rfl (lv_at hl 3 rfl) ?_
          refine lv_iload hx hb dX9_today_59 (lv_at hl 4 rfl) ?_
          refine t_calli (runV (As := [.int v2, .int v3]) (rest := []) ⟨hx, hb, hml, hown, hts⟩ (t_X3_sentOn l D cy base τ G_13 q_10 hq_10 v2 ⟨by omega, by omega⟩ v3) sV_X9_216 hK (t_recv cf_4 hK hT hq_10) ⟨Nat.le_trans hZ hS.1, hT⟩ ⟨Nat.le_of_ble_eq_true rfl, Nat.le_of_ble_eq_true rfl⟩ rfl hl.1 rfl (Nat.le_of_ble_eq_true rfl) dX9_today_61 ⟨Nat.le_of_ble_eq_true rfl, Nat.le_of_ble_eq_true rfl⟩) hS (fun r_16 G_16 H locs hF_16 hr_16 hT hS => ?_)
          have hF := hF.tr hF_16 rfl
          exact ret_i hx hb hr hlocks ⟨⟨hS.1, hS.2.1⟩, G_16, hF, ⟨_, rfl, trivial⟩, hT⟩ hS.2.2 (Nat.le_of_ble_eq_true rfl) (Nat.le_of_ble_eq_true rfl) dX9_today_64
        · skip
          have tc_9 : ¬ v4.toInt ≤ 600 := fun h => c_9 ((fa_le _ _).mpr h)
          have mc_9 : v4.toInt ≤ 2147483647 := max_t v4
          refine lv_bipush (v := (-2)) hx hb dX9_today_36 (by decide) ?_
          exact ret_i hx hb hr hlocks ⟨⟨hS.1, hS.2.1⟩, G, hF, ⟨_, rfl, trivial⟩, hT⟩ hS.2.2 (Nat.le_of_ble_eq_true rfl) (Nat.le_of_ble_eq_true rfl) dX9_today_38
    · skip
      have er_6 := hr_6_1
      subst er_6
      refine W.eq (g2 := F0 m 20 ls [.int 0]) rfl ?_
      refine lv_if_eq (tgt := 36) hx hb dX9_today_20 (by decide) (fun _ => ?_) (fun c_17 => absurd (by decide) c_17)
      refine lv_bipush (v := (-2)) hx hb dX9_today_36 (by decide) ?_
      exact ret_i hx hb hr hlocks ⟨⟨hS.1, hS.2.1⟩, G, hF, ⟨_, rfl, trivial⟩, hT⟩ hS.2.2 (Nat.le_of_ble_eq_true rfl) (Nat.le_of_ble_eq_true rfl) dX9_today_38
  · skip
    have er_2 := hr_2_1
    subst er_2
    refine W.eq (g2 := F0 m 9 ls [.int 0]) rfl ?_
    refine lv_if_eq (tgt := 36) hx hb dX9_today_9 (by decide) (fun _ => ?_) (fun c_18 => absurd (by decide) c_18)
    refine lv_bipush (v := (-2)) hx hb dX9_today_36 (by decide) ?_
    exact ret_i hx hb hr hlocks ⟨⟨hS.1, hS.2.1⟩, G, hF, ⟨_, rfl, trivial⟩, hT⟩ hS.2.2 (Nat.le_of_ble_eq_true rfl) (Nat.le_of_ble_eq_true rfl) dX9_today_38
set_option maxHeartbeats 4000000 in
set_option maxRecDepth 100000 in
theorem t_X9_last (l : Launch) (D : va_G) (cy : Nat → ClassId) (base : Nat) (τ : Nat → Nat) (G : Gh) (a : Nat) (h_a : τ a = 1) (v0 : Int32) (v1 : Int32) : MM l yX9_last cX9_last 3 (some .int) 6 0 0 D cy [.ref a, .int v0, .int v1] (PT D cy base τ G) (QT D cy base τ G [4, 30, 31, 1004] (fun v g => ∃ r : Int32, v = some (.int r) ∧ (True))) (RA base) := by
  refine MM.of (by decide) (Nat.le_of_ble_eq_true rfl) ?_
  intro p e s m below meth c C hPT ls hl
  obtain ⟨hx, hb, hr, hml, hown, hts, hlocks, hK, hnm⟩ := C
  obtain ⟨hZ, hT⟩ := hPT
  have hS : va_S (RA base) s.heap s.heap [] := va_S.rf
  have hF : Fr τ [4, 30, 31, 1004] G G := Fr.rf
  have hl : lv_has ls 3 [(0, .ref a), (1, .int v0), (2, .int v1)] := hl
  refine lv_aload_n hx hb dX9_last_0 rfl (lv_at hl 0 rfl) ?_
  refine t_getr cf_1 hx hb hts hown hK hT h_a (k := 10) (P := fun q => τ q = 7) rfl (fun _ h9 => h9) fl_X9_67 (fun _ h9 => h9) dX9_last_1 (fun q_1 eq_1 hq_1 => ?_)
  refine lv_iload_n hx hb dX9_last_4 rfl (lv_at hl 1 rfl) ?_
  refine lv_iload_n hx hb dX9_last_5 rfl (lv_at hl 2 rfl) ?_
  refine pu_calli (runV (As := [.int v0, .int v1]) (rest := []) ⟨hx, hb, hml, hown, hts⟩ (t_X2_hasStore l D cy base τ G q_1 hq_1 v0 v1) sV_X9_160 hK (t_recv cf_7 hK hT hq_1) ⟨Nat.le_trans hZ hS.1, hT⟩ ⟨Nat.le_of_ble_eq_true rfl, Nat.le_of_ble_eq_true rfl⟩ rfl hl.1 rfl (Nat.le_of_ble_eq_true rfl) dX9_last_6 ⟨Nat.le_of_ble_eq_true rfl, Nat.le_of_ble_eq_true rfl⟩) (fun r_2 hr_2 => ?_)
  have hr_2_c := hr_2
  rcases hr_2_c with hr_2_0 | hr_2_1
  · skip
    obtain ⟨er_2, hr_2_0_f0, hr_2_0_f1, hr_2_0_f2, hr_2_0_f3⟩ := hr_2_0
    have hr_2_0_f0 : 0 ≤ v0.toInt := hr_2_0_f0
    have hr_2_0_f1 : v0.toInt ≤ 5 := hr_2_0_f1
    have hr_2_0_f2 : 0 ≤ v1.toInt := hr_2_0_f2
    have hr_2_0_f3 : v1.toInt ≤ 2 := hr_2_0_f3
    subst er_2
    refine W.eq (g2 := F0 m 9 ls [.int 1]) rfl ?_
    refine lv_if_ne (tgt := 15) hx hb dX9_last_9 (by decide) (fun _ => ?_) (fun c_3 => absurd c_3 (by decide))
    refine lv_aload_n hx hb dX9_last_15 rfl (lv_at hl 0 rfl) ?_
    refine t_getr cf_1 hx hb hts hown hK hT h_a (k := 3) (P := fun q => τ q = 4) rfl (fun _ h9 => h9) fl_X9_30 (fun _ h9 => h9) dX9_last_16 (fun q_4 eq_4 hq_4 => ?_)
    refine lv_aload_n hx hb dX9_last_19 rfl (lv_at hl 0 rfl) ?_
    refine t_getr cf_1 hx hb hts hown hK hT h_a (k := 10) (P := fun q => τ q = 7) rfl (fun _ h9 => h9) fl_X9_67 (fun _ h9 => h9) dX9_last_20 (fun q_5 eq_5 hq_5 => ?_)
    have w_6 : q_1 = q_5 := Option.some.inj (eq_1.symm.trans eq_5)
    subst w_6
    refine lv_iload_n hx hb dX9_last_23 rfl (lv_at hl 1 rfl) ?_
    refine lv_iload_n hx hb dX9_last_24 rfl (lv_at hl 2 rfl) ?_
    refine t_calli (runV (As := [.ref q_1, .int v0, .int v1]) (rest := []) ⟨hx, hb, hml, hown, hts⟩ (t_X3_lastSentInClear l D cy base τ G q_4 hq_4 q_1 hq_1 v0 v1) sV_X9_220 hK (t_recv cf_4 hK hT hq_4) ⟨Nat.le_trans hZ hS.1, hT⟩ ⟨Nat.le_of_ble_eq_true rfl, Nat.le_of_ble_eq_true rfl⟩ rfl hl.1 rfl (Nat.le_of_ble_eq_true rfl) dX9_last_25 ⟨Nat.le_of_ble_eq_true rfl, Nat.le_of_ble_eq_true rfl⟩) hS (fun r_7 G_7 H locs hF_7 hr_7 hT hS => ?_)
    have hF := hF.tr hF_7 rfl
    exact ret_i hx hb hr hlocks ⟨⟨hS.1, hS.2.1⟩, G_7, hF, ⟨_, rfl, trivial⟩, hT⟩ hS.2.2 (Nat.le_of_ble_eq_true rfl) (Nat.le_of_ble_eq_true rfl) dX9_last_28
  · skip
    have er_2 := hr_2_1
    subst er_2
    refine W.eq (g2 := F0 m 9 ls [.int 0]) rfl ?_
    refine lv_if_ne (tgt := 15) hx hb dX9_last_9 (by decide) (fun c_8 => absurd rfl c_8) (fun _ => ?_)
    refine lv_bipush (v := (-2)) hx hb dX9_last_12 (by decide) ?_
    exact ret_i hx hb hr hlocks ⟨⟨hS.1, hS.2.1⟩, G, hF, ⟨_, rfl, trivial⟩, hT⟩ hS.2.2 (Nat.le_of_ble_eq_true rfl) (Nat.le_of_ble_eq_true rfl) dX9_last_14
set_option maxHeartbeats 4000000 in
set_option maxRecDepth 100000 in
theorem t_X9_signs (l : Launch) (D : va_G) (cy : Nat → ClassId) (base : Nat) (τ : Nat → Nat) (G : Gh) (a : Nat) (h_a : τ a = 1) (v0 : Int32) (v1 : Int32) : MM l yX9_signs cX9_signs 8 (some .long) 5 0 0 D cy [.ref a, .int v0, .int v1] (PT D cy base τ G) (QT D cy base τ G [3, 4, 30, 31, 32, 36, 37, 1004] (fun v g => ∃ r : Int64, v = some (.long r) ∧ (True))) (RA base) := by
  refine MM.of (by decide) (Nat.le_of_ble_eq_true rfl) ?_
  intro p e s m below meth c C hPT ls hl
  obtain ⟨hx, hb, hr, hml, hown, hts, hlocks, hK, hnm⟩ := C
  obtain ⟨hZ, hT⟩ := hPT
  have hS : va_S (RA base) s.heap s.heap [] := va_S.rf
  have hF : Fr τ [3, 4, 30, 31, 32, 36, 37, 1004] G G := Fr.rf
  have hl : lv_has ls 8 [(0, .ref a), (1, .int v0), (2, .int v1)] := hl
  refine lv_aload_n hx hb dX9_signs_0 rfl (lv_at hl 0 rfl) ?_
  refine t_getr cf_1 hx hb hts hown hK hT h_a (k := 10) (P := fun q => τ q = 7) rfl (fun _ h9 => h9) fl_X9_67 (fun _ h9 => h9) dX9_signs_1 (fun q_1 eq_1 hq_1 => ?_)
  refine lv_iload_n hx hb dX9_signs_4 rfl (lv_at hl 1 rfl) ?_
  refine lv_iload_n hx hb dX9_signs_5 rfl (lv_at hl 2 rfl) ?_
  refine pu_calli (runV (As := [.int v0, .int v1]) (rest := []) ⟨hx, hb, hml, hown, hts⟩ (t_X2_hasStore l D cy base τ G q_1 hq_1 v0 v1) sV_X9_160 hK (t_recv cf_7 hK hT hq_1) ⟨Nat.le_trans hZ hS.1, hT⟩ ⟨Nat.le_of_ble_eq_true rfl, Nat.le_of_ble_eq_true rfl⟩ rfl hl.1 rfl (Nat.le_of_ble_eq_true rfl) dX9_signs_6 ⟨Nat.le_of_ble_eq_true rfl, Nat.le_of_ble_eq_true rfl⟩) (fun r_2 hr_2 => ?_)
  have hr_2_c := hr_2
  rcases hr_2_c with hr_2_0 | hr_2_1
  · skip
    obtain ⟨er_2, hr_2_0_f0, hr_2_0_f1, hr_2_0_f2, hr_2_0_f3⟩ := hr_2_0
    have hr_2_0_f0 : 0 ≤ v0.toInt := hr_2_0_f0
    have hr_2_0_f1 : v0.toInt ≤ 5 := hr_2_0_f1
    have hr_2_0_f2 : 0 ≤ v1.toInt := hr_2_0_f2
    have hr_2_0_f3 : v1.toInt ≤ 2 := hr_2_0_f3
    subst er_2
    refine W.eq (g2 := F0 m 9 ls [.int 1]) rfl ?_
    refine lv_if_ne (tgt := 16) hx hb dX9_signs_9 (by decide) (fun _ => ?_) (fun c_3 => absurd c_3 (by decide))
    refine lv_aload_n hx hb dX9_signs_16 rfl (lv_at hl 0 rfl) ?_
    refine t_getr cf_1 hx hb hts hown hK hT h_a (k := 2) (P := fun q => τ q = 3) rfl (fun _ h9 => h9) fl_X9_23 (fun _ h9 => h9) dX9_signs_17 (fun q_4 eq_4 hq_4 => ?_)
    refine lv_aload_n hx hb dX9_signs_20 rfl (lv_at hl 0 rfl) ?_
    refine t_getr cf_1 hx hb hts hown hK hT h_a (k := 10) (P := fun q => τ q = 7) rfl (fun _ h9 => h9) fl_X9_67 (fun _ h9 => h9) dX9_signs_21 (fun q_5 eq_5 hq_5 => ?_)
    have w_6 : q_1 = q_5 := Option.some.inj (eq_1.symm.trans eq_5)
    subst w_6
    refine lv_iload_n hx hb dX9_signs_24 rfl (lv_at hl 1 rfl) ?_
    refine lv_iload_n hx hb dX9_signs_25 rfl (lv_at hl 2 rfl) ?_
    refine t_callv (runV (As := [.ref q_1, .int v0, .int v1]) (rest := []) ⟨hx, hb, hml, hown, hts⟩ (t_X8_layAlone l D cy base τ G q_4 hq_4 q_1 hq_1 v0 v1) sV_X9_170 hK (t_recv cf_3 hK hT hq_4) ⟨Nat.le_trans hZ hS.1, hT⟩ ⟨Nat.le_of_ble_eq_true rfl, Nat.le_of_ble_eq_true rfl⟩ rfl hl.1 rfl (Nat.le_of_ble_eq_true rfl) dX9_signs_26 ⟨Nat.le_of_ble_eq_true rfl, Nat.le_of_ble_eq_true rfl⟩) hS (fun G_7 H locs hF_7 hr_7 hT hS => ?_)
    have hF := hF.tr hF_7 rfl
    refine lv_ldc2 (v := 9223372036854775807) hx hb hown (hts _ kl_X9_226) dX9_signs_29 ?_
    refine lv_lstore_n (lv' := [(3, .long 9223372036854775807), (0, .ref a), (1, .int v0), (2, .int v1)]) hx hb dX9_signs_32 rfl hl (by decide) rfl (fun ls hl => ?_)
    refine lv_iconst (v := 0) hx hb dX9_signs_33 (by decide) ?_
    refine lv_istore (lv' := [(5, .int 0), (3, .long 9223372036854775807), (0, .ref a), (1, .int v0), (2, .int v1)]) hx hb dX9_signs_34 hl (by decide) rfl (fun ls hl => ?_)
    refine W.loop (σ := Int64 × Int32 × Gh) (fun w8 H locs ls => 0 ≤ w8.2.1.toInt ∧ w8.2.1.toInt ≤ 1000 ∧ Fr τ [3, 4, 30, 31, 32, 36, 37, 1004] G w8.2.2 ∧ TY D cy base τ w8.2.2 H ∧ va_S (RA base) s.heap H locs ∧ lv_has ls 8 [(3, .long w8.1), (5, .int w8.2.1), (0, .ref a), (1, .int v0), (2, .int v1)]) (fun w8 => (1000 - w8.2.1.toInt).toNat) ?_ ((9223372036854775807 : Int64), (0 : Int32), G_7) _ _ _ ⟨(by show 0 ≤ (0 : Int32).toInt; decide), (by show (0 : Int32).toInt ≤ 1000; decide), hF, hT, hS, lv_sub hl [1, 0, 2, 3, 4] rfl⟩
    intro w8 H locs ls hI ih8
    obtain ⟨x8_3, x8_5, G_8⟩ := w8
    obtain ⟨i8_0, i8_1, hF, hT, hS, hl⟩ := hI
    have i8_0 : 0 ≤ x8_5.toInt := i8_0
    have i8_1 : x8_5.toInt ≤ 1000 := i8_1
    have hF : Fr τ [3, 4, 30, 31, 32, 36, 37, 1004] G G_8 := hF
    have hT : TY D cy base τ G_8 H := hT
    have hS : va_S (RA base) s.heap H locs := hS
    have hl : lv_has ls 8 [(3, .long x8_3), (5, .int x8_5), (0, .ref a), (1, .int v0), (2, .int v1)] := hl
    refine lv_iload hx hb dX9_signs_36 (lv_at hl 1 rfl) ?_
    refine lv_sipush (v := 999) hx hb dX9_signs_38 (by decide) ?_
    refine lv_icmp_gt (tgt := 92) hx hb dX9_signs_41 (by decide) (fun c_9 => ?_) (fun c_9 => ?_)
    · skip
      have tc_9 : 999 < x8_5.toInt := (fa_lt _ _).mp c_9
      refine lv_lload_n hx hb dX9_signs_92 rfl (lv_at hl 0 rfl) ?_
      refine lv_aload_n hx hb dX9_signs_93 rfl (lv_at hl 2 rfl) ?_
      refine t_getr cf_1 hx hb hts hown hK hT h_a (k := 3) (P := fun q => τ q = 4) rfl (fun _ h9 => h9) fl_X9_30 (fun _ h9 => h9) dX9_signs_94 (fun q_10 eq_10 hq_10 => ?_)
      have eq_10 := (hF.r h_a (by decide) rfl _).symm.trans eq_10
      refine lv_aload_n hx hb dX9_signs_97 rfl (lv_at hl 2 rfl) ?_
      refine t_getr cf_1 hx hb hts hown hK hT h_a (k := 10) (P := fun q => τ q = 7) rfl (fun _ h9 => h9) fl_X9_67 (fun _ h9 => h9) dX9_signs_98 (fun q_11 eq_11 hq_11 => ?_)
      have w_12 : q_1 = q_11 := Option.some.inj (eq_1.symm.trans ((hF.r h_a (by decide) rfl _).symm.trans eq_11))
      subst w_12
      refine lv_iload_n hx hb dX9_signs_101 rfl (lv_at hl 3 rfl) ?_
      refine lv_iload_n hx hb dX9_signs_102 rfl (lv_at hl 4 rfl) ?_
      refine t_calll (runV (As := [.ref q_1, .int v0, .int v1]) (rest := [.long x8_3]) ⟨hx, hb, hml, hown, hts⟩ (t_X3_leastFromFirst l D cy base τ G_8 q_10 hq_10 q_1 hq_1 v0 v1) sV_X9_208 hK (t_recv cf_4 hK hT hq_10) ⟨Nat.le_trans hZ hS.1, hT⟩ ⟨Nat.le_of_ble_eq_true rfl, Nat.le_of_ble_eq_true rfl⟩ rfl hl.1 rfl (Nat.le_of_ble_eq_true rfl) dX9_signs_103 ⟨Nat.le_of_ble_eq_true rfl, Nat.le_of_ble_eq_true rfl⟩) hS (fun r_13 G_13 H locs hF_13 hr_13 hT hS => ?_)
      have hF := hF.tr hF_13 rfl
      refine lv_lsub hx hb dX9_signs_106 ?_
      refine lv_topl (fun z_14 ez_14 => ?_)
      exact ret_l hx hb hr hlocks ⟨⟨hS.1, hS.2.1⟩, G_13, hF, ⟨_, rfl, trivial⟩, hT⟩ hS.2.2 (Nat.le_of_ble_eq_true rfl) (Nat.le_of_ble_eq_true rfl) dX9_signs_107
    · skip
      have tc_9 : ¬ 999 < x8_5.toInt := fun h => c_9 ((fa_lt _ _).mpr h)
      refine lv_ldc2 (v := 1000) hx hb hown (hts _ kl_X9_228) dX9_signs_44 ?_
      refine lv_aload_n hx hb dX9_signs_47 rfl (lv_at hl 2 rfl) ?_
      refine t_getr cf_1 hx hb hts hown hK hT h_a (k := 10) (P := fun q => τ q = 7) rfl (fun _ h9 => h9) fl_X9_67 (fun _ h9 => h9) dX9_signs_48 (fun q_15 eq_15 hq_15 => ?_)
      have w_16 : q_1 = q_15 := Option.some.inj (eq_1.symm.trans ((hF.r h_a (by decide) rfl _).symm.trans eq_15))
      subst w_16
      refine t_geti cf_7 hx hb hts hown hK hT hq_1 (k := 10) rfl fl_X9_230 (fun _ h9 => h9) dX9_signs_51 (fun z_17 ez_17 rz_17 => ?_)
      have ez_17 : z_17 = G_8.1 q_1 10 := ez_17
      have ez_17 : z_17 = G.1 q_1 10 := ez_17.trans (hF.i hq_1 (by decide) rfl _)
      refine lv_i2l hx hb dX9_signs_54 rfl ?_
      refine lv_topl (fun z_18 ez_18 => ?_)
      have tz_18 : z_18.toInt = z_17.toInt := by rw [ez_18]; exact wide_t z_17
      have az_18 := min_t z_17
      have bz_18 := max_t z_17
      refine lv_lmul hx hb dX9_signs_55 ?_
      refine lv_topl (fun z_19 ez_19 => ?_)
      have tz_19 : z_19.toInt = 1000 * z_18.toInt := mul_t64 ez_19 (show -9223372036854775808 ≤ 1000 * z_18.toInt by omega) (show 1000 * z_18.toInt < 9223372036854775808 by omega)
      refine lv_aload_n hx hb dX9_signs_56 rfl (lv_at hl 2 rfl) ?_
      refine t_getr cf_1 hx hb hts hown hK hT h_a (k := 10) (P := fun q => τ q = 7) rfl (fun _ h9 => h9) fl_X9_67 (fun _ h9 => h9) dX9_signs_57 (fun q_20 eq_20 hq_20 => ?_)
      have w_21 : q_1 = q_20 := Option.some.inj (eq_1.symm.trans ((hF.r h_a (by decide) rfl _).symm.trans eq_20))
      subst w_21
      refine lv_iload hx hb dX9_signs_60 (lv_at hl 1 rfl) ?_
      refine pu_calli (runV (As := [.int x8_5]) (rest := [.long z_19]) ⟨hx, hb, hml, hown, hts⟩ (t_X2_loadsOf l D cy base τ G_8 q_1 hq_1 x8_5) sV_X9_233 hK (t_recv cf_7 hK hT hq_1) ⟨Nat.le_trans hZ hS.1, hT⟩ ⟨Nat.le_of_ble_eq_true rfl, Nat.le_of_ble_eq_true rfl⟩ rfl hl.1 rfl (Nat.le_of_ble_eq_true rfl) dX9_signs_62 ⟨Nat.le_of_ble_eq_true rfl, Nat.le_of_ble_eq_true rfl⟩) (fun r_22 hr_22 => ?_)
      refine lv_i2l hx hb dX9_signs_65 rfl ?_
      refine lv_topl (fun z_23 ez_23 => ?_)
      have tz_23 : z_23.toInt = r_22.toInt := by rw [ez_23]; exact wide_t r_22
      have az_23 := min_t r_22
      have bz_23 := max_t r_22
      refine lv_lmul hx hb dX9_signs_66 ?_
      refine lv_topl (fun z_24 ez_24 => ?_)
      refine lv_lstore (lv' := [(6, .long z_24), (3, .long x8_3), (5, .int x8_5), (0, .ref a), (1, .int v0), (2, .int v1)]) hx hb dX9_signs_67 hl (by decide) rfl (fun ls hl => ?_)
      refine lv_lload_n hx hb dX9_signs_69 rfl (lv_at hl 1 rfl) ?_
      refine lv_aload_n hx hb dX9_signs_70 rfl (lv_at hl 3 rfl) ?_
      refine t_getr cf_1 hx hb hts hown hK hT h_a (k := 2) (P := fun q => τ q = 3) rfl (fun _ h9 => h9) fl_X9_23 (fun _ h9 => h9) dX9_signs_71 (fun q_25 eq_25 hq_25 => ?_)
      have w_26 : q_4 = q_25 := Option.some.inj (eq_4.symm.trans ((hF.r h_a (by decide) rfl _).symm.trans eq_25))
      subst w_26
      refine lv_iload hx hb dX9_signs_74 (lv_at hl 2 rfl) ?_
      refine pu_calll (runV (As := [.int x8_5]) (rest := [.long x8_3]) ⟨hx, hb, hml, hown, hts⟩ (t_X8_thousandths l D cy base τ G_8 q_4 hq_4 x8_5) sV_X9_173 hK (t_recv cf_3 hK hT hq_4) ⟨Nat.le_trans hZ hS.1, hT⟩ ⟨Nat.le_of_ble_eq_true rfl, Nat.le_of_ble_eq_true rfl⟩ rfl hl.1 rfl (Nat.le_of_ble_eq_true rfl) dX9_signs_76 ⟨Nat.le_of_ble_eq_true rfl, Nat.le_of_ble_eq_true rfl⟩) (fun r_27 hr_27 => ?_)
      refine lv_lload hx hb dX9_signs_79 (lv_at hl 0 rfl) ?_
      refine lv_ladd hx hb dX9_signs_81 ?_
      refine lv_topl (fun z_28 ez_28 => ?_)
      refine va_mmin_long hx hb (by rw [hml]; exact hl.1.symm) hown (hts _ ml_X9_236) (hts _ st_math_minl) (hts _ ini_J9) (hts _ co_math_minl) (Nat.le_of_ble_eq_true rfl) (Nat.le_of_ble_eq_true rfl) (Nat.le_of_ble_eq_true rfl) (Nat.le_of_ble_eq_true rfl) dX9_signs_82 ?_
      refine lv_topl (fun z_29 ez_29 => ?_)
      refine lv_lstore_n (lv' := [(3, .long z_29), (6, .long z_24), (5, .int x8_5), (0, .ref a), (1, .int v0), (2, .int v1)]) hx hb dX9_signs_85 rfl hl (by decide) rfl (fun ls hl => ?_)
      obtain ⟨z_30, ez_30⟩ : ∃ y : Int32, y = x8_5 + 1 := ⟨_, rfl⟩
      have tz_30 : z_30.toInt = x8_5.toInt + 1 := add_t ez_30 (show -2147483648 ≤ x8_5.toInt + 1 by omega) (show x8_5.toInt + 1 < 2147483648 by omega)
      refine lv_iinc (v := z_30) (lv' := [(5, .int z_30), (3, .long z_29), (6, .long z_24), (0, .ref a), (1, .int v0), (2, .int v1)]) hx hb dX9_signs_86 hl (k := 2) rfl (by rw [ez_30]; rfl) (by decide) rfl (fun ls hl => ?_)
      refine lv_goto (tgt := 36) hx hb dX9_signs_89 (by decide) ?_
      exact ih8 (z_29, z_30, G_8) _ _ _ (by show (1000 - z_30.toInt).toNat < (1000 - x8_5.toInt).toNat; omega) ⟨(by show 0 ≤ z_30.toInt; omega), (by show z_30.toInt ≤ 1000; omega), hF, hT, hS, lv_sub hl [1, 0, 3, 4, 5] rfl⟩
  · skip
    have er_2 := hr_2_1
    subst er_2
    refine W.eq (g2 := F0 m 9 ls [.int 0]) rfl ?_
    refine lv_if_ne (tgt := 16) hx hb dX9_signs_9 (by decide) (fun c_31 => absurd rfl c_31) (fun _ => ?_)
    refine lv_ldc2 (v := (-1000000000000)) hx hb hown (hts _ kl_X9_176) dX9_signs_12 ?_
    exact ret_l hx hb hr hlocks ⟨⟨hS.1, hS.2.1⟩, G, hF, ⟨_, rfl, trivial⟩, hT⟩ hS.2.2 (Nat.le_of_ble_eq_true rfl) (Nat.le_of_ble_eq_true rfl) dX9_signs_15
