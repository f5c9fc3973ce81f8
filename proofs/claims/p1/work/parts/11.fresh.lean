theorem dX9_shareState_0 : decode cX9_shareState 0 = .ok (.iload_n 1, 1) := by decide +kernel
theorem dX9_shareState_1 : decode cX9_shareState 1 = .ok (.invokestatic 312, 3) := by decide +kernel
theorem dX9_shareState_4 : decode cX9_shareState 4 = .ok (.ifCond .eq 35, 3) := by decide +kernel
theorem dX9_shareState_7 : decode cX9_shareState 7 = .ok (.iload_n 2, 1) := by decide +kernel
theorem dX9_shareState_8 : decode cX9_shareState 8 = .ok (.ifCond .lt 31, 3) := by decide +kernel
theorem dX9_shareState_39 : decode cX9_shareState 39 = .ok (.bipush (-2), 2) := by decide +kernel
theorem dX9_shareState_41 : decode cX9_shareState 41 = .ok (.ireturn, 1) := by decide +kernel
theorem dX9_shareState_11 : decode cX9_shareState 11 = .ok (.iload_n 2, 1) := by decide +kernel
theorem dX9_shareState_12 : decode cX9_shareState 12 = .ok (.iconst 1, 1) := by decide +kernel
theorem dX9_shareState_13 : decode cX9_shareState 13 = .ok (.if_icmp .gt 26, 3) := by decide +kernel
theorem dX9_shareState_16 : decode cX9_shareState 16 = .ok (.iload_n 3, 1) := by decide +kernel
theorem dX9_shareState_17 : decode cX9_shareState 17 = .ok (.ifCond .lt 22, 3) := by decide +kernel
theorem dX9_shareState_20 : decode cX9_shareState 20 = .ok (.iload_n 3, 1) := by decide +kernel
theorem dX9_shareState_21 : decode cX9_shareState 21 = .ok (.ldc_w 384, 3) := by decide +kernel
theorem dX9_shareState_24 : decode cX9_shareState 24 = .ok (.if_icmp .gt 15, 3) := by decide +kernel
theorem dX9_shareState_27 : decode cX9_shareState 27 = .ok (.aload_n 0, 1) := by decide +kernel
theorem dX9_shareState_28 : decode cX9_shareState 28 = .ok (.getfield 67, 3) := by decide +kernel
theorem dX9_shareState_31 : decode cX9_shareState 31 = .ok (.iload 4, 2) := by decide +kernel
theorem dX9_shareState_33 : decode cX9_shareState 33 = .ok (.invokevirtual 99, 3) := by decide +kernel
theorem dX9_shareState_36 : decode cX9_shareState 36 = .ok (.ifCond .ne 6, 3) := by decide +kernel
theorem dX9_shuts_0 : decode cX9_shuts 0 = .ok (.aload_n 0, 1) := by decide +kernel
theorem dX9_shuts_1 : decode cX9_shuts 1 = .ok (.getfield 67, 3) := by decide +kernel
theorem dX9_shuts_4 : decode cX9_shuts 4 = .ok (.iload_n 1, 1) := by decide +kernel
theorem dX9_shuts_5 : decode cX9_shuts 5 = .ok (.invokevirtual 99, 3) := by decide +kernel
theorem dX9_shuts_8 : decode cX9_shuts 8 = .ok (.ifCond .eq 14, 3) := by decide +kernel
theorem dX9_shuts_22 : decode cX9_shuts 22 = .ok (.ldc2_w 106, 3) := by decide +kernel
theorem dX9_shuts_25 : decode cX9_shuts 25 = .ok (.lreturn, 1) := by decide +kernel
theorem dX9_by_0 : decode cX9_by 0 = .ok (.aload_n 0, 1) := by decide +kernel
theorem dX9_by_1 : decode cX9_by 1 = .ok (.getfield 67, 3) := by decide +kernel
theorem dX9_by_4 : decode cX9_by 4 = .ok (.iload_n 1, 1) := by decide +kernel
theorem dX9_by_5 : decode cX9_by 5 = .ok (.invokevirtual 99, 3) := by decide +kernel
theorem dX9_by_8 : decode cX9_by 8 = .ok (.ifCond .eq 14, 3) := by decide +kernel
theorem dX9_by_22 : decode cX9_by 22 = .ok (.ldc2_w 106, 3) := by decide +kernel
theorem dX9_by_25 : decode cX9_by 25 = .ok (.lreturn, 1) := by decide +kernel
theorem dX9_both_0 : decode cX9_both 0 = .ok (.aload_n 0, 1) := by decide +kernel
theorem dX9_both_1 : decode cX9_both 1 = .ok (.getfield 67, 3) := by decide +kernel
theorem dX9_both_4 : decode cX9_both 4 = .ok (.iload_n 1, 1) := by decide +kernel
theorem dX9_both_5 : decode cX9_both 5 = .ok (.iload_n 3, 1) := by decide +kernel
theorem dX9_both_6 : decode cX9_both 6 = .ok (.invokevirtual 125, 3) := by decide +kernel
theorem dX9_both_9 : decode cX9_both 9 = .ok (.ifCond .eq 26, 3) := by decide +kernel
theorem dX9_both_35 : decode cX9_both 35 = .ok (.ldc2_w 106, 3) := by decide +kernel
theorem dX9_both_38 : decode cX9_both 38 = .ok (.lreturn, 1) := by decide +kernel
theorem dX9_together_0 : decode cX9_together 0 = .ok (.aload_n 0, 1) := by decide +kernel
theorem dX9_together_1 : decode cX9_together 1 = .ok (.getfield 67, 3) := by decide +kernel
theorem dX9_together_4 : decode cX9_together 4 = .ok (.iload_n 1, 1) := by decide +kernel
theorem dX9_together_5 : decode cX9_together 5 = .ok (.invokevirtual 122, 3) := by decide +kernel
theorem dX9_together_8 : decode cX9_together 8 = .ok (.ifCond .eq 18, 3) := by decide +kernel
theorem dX9_together_26 : decode cX9_together 26 = .ok (.ldc2_w 106, 3) := by decide +kernel
theorem dX9_together_29 : decode cX9_together 29 = .ok (.lreturn, 1) := by decide +kernel
theorem dX9_set_0 : decode cX9_set 0 = .ok (.aload_n 0, 1) := by decide +kernel
theorem dX9_set_1 : decode cX9_set 1 = .ok (.getfield 67, 3) := by decide +kernel
theorem dX9_set_4 : decode cX9_set 4 = .ok (.iload_n 1, 1) := by decide +kernel
theorem dX9_set_5 : decode cX9_set 5 = .ok (.invokevirtual 122, 3) := by decide +kernel
theorem dX9_set_8 : decode cX9_set 8 = .ok (.ifCond .eq 14, 3) := by decide +kernel
theorem dX9_set_22 : decode cX9_set 22 = .ok (.ldc2_w 106, 3) := by decide +kernel
theorem dX9_set_25 : decode cX9_set 25 = .ok (.lreturn, 1) := by decide +kernel
theorem dX9_when_0 : decode cX9_when 0 = .ok (.aload_n 0, 1) := by decide +kernel
theorem dX9_when_1 : decode cX9_when 1 = .ok (.getfield 67, 3) := by decide +kernel
theorem dX9_when_4 : decode cX9_when 4 = .ok (.iload_n 1, 1) := by decide +kernel
theorem dX9_when_5 : decode cX9_when 5 = .ok (.invokevirtual 99, 3) := by decide +kernel
theorem dX9_when_8 : decode cX9_when 8 = .ok (.ifCond .eq 15, 3) := by decide +kernel
theorem dX9_when_23 : decode cX9_when 23 = .ok (.bipush (-2), 2) := by decide +kernel
theorem dX9_when_25 : decode cX9_when 25 = .ok (.ireturn, 1) := by decide +kernel
theorem dX9_wants_0 : decode cX9_wants 0 = .ok (.aload_n 0, 1) := by decide +kernel
theorem dX9_wants_1 : decode cX9_wants 1 = .ok (.getfield 67, 3) := by decide +kernel
theorem dX9_wants_4 : decode cX9_wants 4 = .ok (.iload_n 1, 1) := by decide +kernel
theorem dX9_wants_5 : decode cX9_wants 5 = .ok (.iload_n 2, 1) := by decide +kernel
theorem dX9_wants_6 : decode cX9_wants 6 = .ok (.invokevirtual 160, 3) := by decide +kernel
theorem dX9_wants_9 : decode cX9_wants 9 = .ok (.ifCond .eq 14, 3) := by decide +kernel
theorem dX9_wants_23 : decode cX9_wants 23 = .ok (.bipush (-2), 2) := by decide +kernel
theorem dX9_wants_25 : decode cX9_wants 25 = .ok (.ireturn, 1) := by decide +kernel
theorem dX9_cost_0 : decode cX9_cost 0 = .ok (.aload_n 0, 1) := by decide +kernel
theorem dX9_cost_1 : decode cX9_cost 1 = .ok (.getfield 67, 3) := by decide +kernel
theorem dX9_cost_4 : decode cX9_cost 4 = .ok (.iload_n 1, 1) := by decide +kernel
theorem dX9_cost_5 : decode cX9_cost 5 = .ok (.iload_n 2, 1) := by decide +kernel
theorem dX9_cost_6 : decode cX9_cost 6 = .ok (.invokevirtual 160, 3) := by decide +kernel
theorem dX9_cost_9 : decode cX9_cost 9 = .ok (.ifCond .eq 10, 3) := by decide +kernel
theorem dX9_cost_19 : decode cX9_cost 19 = .ok (.ldc2_w 106, 3) := by decide +kernel
theorem dX9_cost_22 : decode cX9_cost 22 = .ok (.lreturn, 1) := by decide +kernel
theorem dX9_worth_0 : decode cX9_worth 0 = .ok (.aload_n 0, 1) := by decide +kernel
theorem dX9_worth_1 : decode cX9_worth 1 = .ok (.getfield 67, 3) := by decide +kernel
theorem dX9_worth_4 : decode cX9_worth 4 = .ok (.iload_n 1, 1) := by decide +kernel
theorem dX9_worth_5 : decode cX9_worth 5 = .ok (.iload_n 2, 1) := by decide +kernel
theorem dX9_worth_6 : decode cX9_worth 6 = .ok (.invokevirtual 160, 3) := by decide +kernel
theorem dX9_worth_9 : decode cX9_worth 9 = .ok (.ifCond .eq 14, 3) := by decide +kernel
theorem dX9_worth_23 : decode cX9_worth 23 = .ok (.ldc2_w 176, 3) := by decide +kernel
theorem dX9_worth_26 : decode cX9_worth 26 = .ok (.lreturn, 1) := by decide +kernel
theorem dX9_best_0 : decode cX9_best 0 = .ok (.aload_n 0, 1) := by decide +kernel
theorem dX9_best_1 : decode cX9_best 1 = .ok (.getfield 67, 3) := by decide +kernel
theorem dX9_best_4 : decode cX9_best 4 = .ok (.iload_n 1, 1) := by decide +kernel
theorem dX9_best_5 : decode cX9_best 5 = .ok (.iload_n 2, 1) := by decide +kernel
theorem dX9_best_6 : decode cX9_best 6 = .ok (.invokevirtual 160, 3) := by decide +kernel
theorem dX9_best_9 : decode cX9_best 9 = .ok (.ifCond .ne 6, 3) := by decide +kernel
theorem dX9_best_12 : decode cX9_best 12 = .ok (.bipush (-2), 2) := by decide +kernel
theorem dX9_best_14 : decode cX9_best 14 = .ok (.ireturn, 1) := by decide +kernel
theorem dX9_sure_0 : decode cX9_sure 0 = .ok (.aload_n 0, 1) := by decide +kernel
theorem dX9_sure_1 : decode cX9_sure 1 = .ok (.getfield 67, 3) := by decide +kernel
theorem dX9_sure_4 : decode cX9_sure 4 = .ok (.iload_n 1, 1) := by decide +kernel
theorem dX9_sure_5 : decode cX9_sure 5 = .ok (.iload_n 2, 1) := by decide +kernel
theorem dX9_sure_6 : decode cX9_sure 6 = .ok (.invokevirtual 160, 3) := by decide +kernel
theorem dX9_sure_9 : decode cX9_sure 9 = .ok (.ifCond .eq 10, 3) := by decide +kernel
theorem dX9_sure_19 : decode cX9_sure 19 = .ok (.ldc2_w 106, 3) := by decide +kernel
theorem dX9_sure_22 : decode cX9_sure 22 = .ok (.lreturn, 1) := by decide +kernel
theorem dX9_need_0 : decode cX9_need 0 = .ok (.aload_n 0, 1) := by decide +kernel
theorem dX9_need_1 : decode cX9_need 1 = .ok (.getfield 67, 3) := by decide +kernel
theorem dX9_need_4 : decode cX9_need 4 = .ok (.iload_n 1, 1) := by decide +kernel
theorem dX9_need_5 : decode cX9_need 5 = .ok (.iload_n 2, 1) := by decide +kernel
theorem dX9_need_6 : decode cX9_need 6 = .ok (.invokevirtual 160, 3) := by decide +kernel
theorem dX9_need_9 : decode cX9_need 9 = .ok (.ifCond .eq 14, 3) := by decide +kernel
theorem dX9_need_23 : decode cX9_need 23 = .ok (.bipush (-2), 2) := by decide +kernel
theorem dX9_need_25 : decode cX9_need 25 = .ok (.ireturn, 1) := by decide +kernel
theorem dX9_packed_0 : decode cX9_packed 0 = .ok (.aload_n 0, 1) := by decide +kernel
theorem dX9_packed_1 : decode cX9_packed 1 = .ok (.getfield 67, 3) := by decide +kernel
theorem dX9_packed_4 : decode cX9_packed 4 = .ok (.iload_n 1, 1) := by decide +kernel
theorem dX9_packed_5 : decode cX9_packed 5 = .ok (.invokevirtual 99, 3) := by decide +kernel
theorem dX9_packed_8 : decode cX9_packed 8 = .ok (.ifCond .ne 7, 3) := by decide +kernel
theorem dX9_packed_11 : decode cX9_packed 11 = .ok (.ldc2_w 106, 3) := by decide +kernel
theorem dX9_packed_14 : decode cX9_packed 14 = .ok (.lreturn, 1) := by decide +kernel
theorem dX9_pack_0 : decode cX9_pack 0 = .ok (.aload_n 0, 1) := by decide +kernel
theorem dX9_pack_1 : decode cX9_pack 1 = .ok (.getfield 67, 3) := by decide +kernel
theorem dX9_pack_4 : decode cX9_pack 4 = .ok (.iload_n 1, 1) := by decide +kernel
theorem dX9_pack_5 : decode cX9_pack 5 = .ok (.iload_n 2, 1) := by decide +kernel
theorem dX9_pack_6 : decode cX9_pack 6 = .ok (.invokevirtual 160, 3) := by decide +kernel
theorem dX9_pack_9 : decode cX9_pack 9 = .ok (.ifCond .ne 6, 3) := by decide +kernel
theorem dX9_pack_12 : decode cX9_pack 12 = .ok (.bipush (-2), 2) := by decide +kernel
theorem dX9_pack_14 : decode cX9_pack 14 = .ok (.ireturn, 1) := by decide +kernel
theorem dX9_gap_0 : decode cX9_gap 0 = .ok (.aload_n 0, 1) := by decide +kernel
theorem dX9_gap_1 : decode cX9_gap 1 = .ok (.getfield 67, 3) := by decide +kernel
theorem dX9_gap_4 : decode cX9_gap 4 = .ok (.iload_n 1, 1) := by decide +kernel
theorem dX9_gap_5 : decode cX9_gap 5 = .ok (.invokevirtual 99, 3) := by decide +kernel
theorem dX9_gap_8 : decode cX9_gap 8 = .ok (.ifCond .ne 7, 3) := by decide +kernel
theorem dX9_gap_11 : decode cX9_gap 11 = .ok (.ldc2_w 106, 3) := by decide +kernel
theorem dX9_gap_14 : decode cX9_gap 14 = .ok (.lreturn, 1) := by decide +kernel
theorem dX9_late_0 : decode cX9_late 0 = .ok (.aload_n 0, 1) := by decide +kernel
theorem dX9_late_1 : decode cX9_late 1 = .ok (.getfield 67, 3) := by decide +kernel
theorem dX9_late_4 : decode cX9_late 4 = .ok (.iload_n 1, 1) := by decide +kernel
theorem dX9_late_5 : decode cX9_late 5 = .ok (.iload_n 2, 1) := by decide +kernel
theorem dX9_late_6 : decode cX9_late 6 = .ok (.invokevirtual 160, 3) := by decide +kernel
theorem dX9_late_9 : decode cX9_late 9 = .ok (.ifCond .ne 7, 3) := by decide +kernel
theorem dX9_late_12 : decode cX9_late 12 = .ok (.ldc2_w 106, 3) := by decide +kernel
theorem dX9_late_15 : decode cX9_late 15 = .ok (.lreturn, 1) := by decide +kernel
theorem dX9_today_0 : decode cX9_today 0 = .ok (.aload_n 0, 1) := by decide +kernel
theorem dX9_today_1 : decode cX9_today 1 = .ok (.getfield 67, 3) := by decide +kernel
theorem dX9_today_4 : decode cX9_today 4 = .ok (.iload_n 1, 1) := by decide +kernel
theorem dX9_today_5 : decode cX9_today 5 = .ok (.iload_n 2, 1) := by decide +kernel
theorem dX9_today_6 : decode cX9_today 6 = .ok (.invokevirtual 160, 3) := by decide +kernel
theorem dX9_today_9 : decode cX9_today 9 = .ok (.ifCond .eq 27, 3) := by decide +kernel
theorem dX9_today_36 : decode cX9_today 36 = .ok (.bipush (-2), 2) := by decide +kernel
theorem dX9_today_38 : decode cX9_today 38 = .ok (.ireturn, 1) := by decide +kernel
theorem dX9_last_0 : decode cX9_last 0 = .ok (.aload_n 0, 1) := by decide +kernel
theorem dX9_last_1 : decode cX9_last 1 = .ok (.getfield 67, 3) := by decide +kernel
theorem dX9_last_4 : decode cX9_last 4 = .ok (.iload_n 1, 1) := by decide +kernel
theorem dX9_last_5 : decode cX9_last 5 = .ok (.iload_n 2, 1) := by decide +kernel
theorem dX9_last_6 : decode cX9_last 6 = .ok (.invokevirtual 160, 3) := by decide +kernel
theorem dX9_last_9 : decode cX9_last 9 = .ok (.ifCond .ne 6, 3) := by decide +kernel
theorem dX9_last_12 : decode cX9_last 12 = .ok (.bipush (-2), 2) := by decide +kernel
theorem dX9_last_14 : decode cX9_last 14 = .ok (.ireturn, 1) := by decide +kernel
theorem dX9_signs_0 : decode cX9_signs 0 = .ok (.aload_n 0, 1) := by decide +kernel
theorem dX9_signs_1 : decode cX9_signs 1 = .ok (.getfield 67, 3) := by decide +kernel
theorem dX9_signs_4 : decode cX9_signs 4 = .ok (.iload_n 1, 1) := by decide +kernel
theorem dX9_signs_5 : decode cX9_signs 5 = .ok (.iload_n 2, 1) := by decide +kernel
theorem dX9_signs_6 : decode cX9_signs 6 = .ok (.invokevirtual 160, 3) := by decide +kernel
theorem dX9_signs_9 : decode cX9_signs 9 = .ok (.ifCond .ne 7, 3) := by decide +kernel
theorem dX9_signs_12 : decode cX9_signs 12 = .ok (.ldc2_w 176, 3) := by decide +kernel
theorem dX9_signs_15 : decode cX9_signs 15 = .ok (.lreturn, 1) := by decide +kernel
theorem dX9_fork_0 : decode cX9_fork 0 = .ok (.aload_n 0, 1) := by decide +kernel
theorem dX9_fork_1 : decode cX9_fork 1 = .ok (.getfield 67, 3) := by decide +kernel
theorem dX9_fork_4 : decode cX9_fork 4 = .ok (.iload_n 1, 1) := by decide +kernel
theorem dX9_fork_5 : decode cX9_fork 5 = .ok (.iload_n 2, 1) := by decide +kernel
theorem dX9_fork_6 : decode cX9_fork 6 = .ok (.invokevirtual 125, 3) := by decide +kernel
theorem dX9_fork_9 : decode cX9_fork 9 = .ok (.ifCond .eq 22, 3) := by decide +kernel
theorem dX9_fork_31 : decode cX9_fork 31 = .ok (.ldc2_w 106, 3) := by decide +kernel
theorem dX9_fork_34 : decode cX9_fork 34 = .ok (.lreturn, 1) := by decide +kernel
theorem dX9_middle_0 : decode cX9_middle 0 = .ok (.aload_n 0, 1) := by decide +kernel
theorem dX9_middle_1 : decode cX9_middle 1 = .ok (.getfield 67, 3) := by decide +kernel
theorem dX9_middle_4 : decode cX9_middle 4 = .ok (.iload_n 1, 1) := by decide +kernel
theorem dX9_middle_5 : decode cX9_middle 5 = .ok (.iload_n 2, 1) := by decide +kernel
theorem dX9_middle_6 : decode cX9_middle 6 = .ok (.invokevirtual 125, 3) := by decide +kernel
theorem dX9_middle_9 : decode cX9_middle 9 = .ok (.ifCond .eq 14, 3) := by decide +kernel
theorem dX9_middle_23 : decode cX9_middle 23 = .ok (.bipush (-2), 2) := by decide +kernel
theorem dX9_middle_25 : decode cX9_middle 25 = .ok (.ireturn, 1) := by decide +kernel
theorem dX9_shares_0 : decode cX9_shares 0 = .ok (.aload_n 0, 1) := by decide +kernel
theorem dX9_shares_1 : decode cX9_shares 1 = .ok (.getfield 67, 3) := by decide +kernel
theorem dX9_shares_4 : decode cX9_shares 4 = .ok (.iload_n 1, 1) := by decide +kernel
theorem dX9_shares_5 : decode cX9_shares 5 = .ok (.iload_n 2, 1) := by decide +kernel
theorem dX9_shares_6 : decode cX9_shares 6 = .ok (.invokevirtual 125, 3) := by decide +kernel
theorem dX9_shares_9 : decode cX9_shares 9 = .ok (.ifCond .eq 14, 3) := by decide +kernel
theorem dX9_shares_23 : decode cX9_shares 23 = .ok (.ldc2_w 176, 3) := by decide +kernel
theorem dX9_shares_26 : decode cX9_shares 26 = .ok (.lreturn, 1) := by decide +kernel
theorem dX9_flown_0 : decode cX9_flown 0 = .ok (.aload_n 0, 1) := by decide +kernel
theorem dX9_flown_1 : decode cX9_flown 1 = .ok (.getfield 67, 3) := by decide +kernel
theorem dX9_flown_4 : decode cX9_flown 4 = .ok (.iload_n 1, 1) := by decide +kernel
theorem dX9_flown_5 : decode cX9_flown 5 = .ok (.iload_n 2, 1) := by decide +kernel
theorem dX9_flown_6 : decode cX9_flown 6 = .ok (.invokevirtual 160, 3) := by decide +kernel
theorem dX9_flown_9 : decode cX9_flown 9 = .ok (.ifCond .eq 10, 3) := by decide +kernel
theorem dX9_flown_19 : decode cX9_flown 19 = .ok (.ldc2_w 106, 3) := by decide +kernel
theorem dX9_flown_22 : decode cX9_flown 22 = .ok (.lreturn, 1) := by decide +kernel
theorem dX9_plane_0 : decode cX9_plane 0 = .ok (.aload_n 0, 1) := by decide +kernel
theorem dX9_plane_1 : decode cX9_plane 1 = .ok (.getfield 67, 3) := by decide +kernel
theorem dX9_plane_4 : decode cX9_plane 4 = .ok (.iload_n 1, 1) := by decide +kernel
theorem dX9_plane_5 : decode cX9_plane 5 = .ok (.iload_n 2, 1) := by decide +kernel
theorem dX9_plane_6 : decode cX9_plane 6 = .ok (.invokevirtual 160, 3) := by decide +kernel
theorem dX9_plane_9 : decode cX9_plane 9 = .ok (.ifCond .ne 6, 3) := by decide +kernel
theorem dX9_plane_12 : decode cX9_plane 12 = .ok (.bipush (-2), 2) := by decide +kernel
theorem dX9_plane_14 : decode cX9_plane 14 = .ok (.ireturn, 1) := by decide +kernel
theorem dX9_edge_0 : decode cX9_edge 0 = .ok (.aload_n 0, 1) := by decide +kernel
theorem dX9_edge_1 : decode cX9_edge 1 = .ok (.getfield 67, 3) := by decide +kernel
theorem dX9_edge_4 : decode cX9_edge 4 = .ok (.iload_n 1, 1) := by decide +kernel
theorem dX9_edge_5 : decode cX9_edge 5 = .ok (.invokevirtual 242, 3) := by decide +kernel
theorem dX9_edge_8 : decode cX9_edge 8 = .ok (.ifCond .ne 6, 3) := by decide +kernel
theorem dX9_edge_11 : decode cX9_edge 11 = .ok (.bipush (-2), 2) := by decide +kernel
theorem dX9_edge_13 : decode cX9_edge 13 = .ok (.ireturn, 1) := by decide +kernel
theorem dX9_path_0 : decode cX9_path 0 = .ok (.aload_n 0, 1) := by decide +kernel
theorem dX9_path_1 : decode cX9_path 1 = .ok (.getfield 67, 3) := by decide +kernel
theorem dX9_path_4 : decode cX9_path 4 = .ok (.iload_n 1, 1) := by decide +kernel
theorem dX9_path_5 : decode cX9_path 5 = .ok (.iload_n 2, 1) := by decide +kernel
theorem dX9_path_6 : decode cX9_path 6 = .ok (.invokevirtual 125, 3) := by decide +kernel
theorem dX9_path_9 : decode cX9_path 9 = .ok (.ifCond .eq 22, 3) := by decide +kernel
theorem dX9_path_31 : decode cX9_path 31 = .ok (.ldc2_w 106, 3) := by decide +kernel
theorem dX9_path_34 : decode cX9_path 34 = .ok (.lreturn, 1) := by decide +kernel
theorem dX9_fed_0 : decode cX9_fed 0 = .ok (.aload_n 0, 1) := by decide +kernel
theorem dX9_fed_1 : decode cX9_fed 1 = .ok (.getfield 67, 3) := by decide +kernel
theorem dX9_fed_4 : decode cX9_fed 4 = .ok (.iload_n 1, 1) := by decide +kernel
theorem dX9_fed_5 : decode cX9_fed 5 = .ok (.iload_n 2, 1) := by decide +kernel
theorem dX9_fed_6 : decode cX9_fed 6 = .ok (.invokevirtual 125, 3) := by decide +kernel
theorem dX9_fed_9 : decode cX9_fed 9 = .ok (.ifCond .ne 6, 3) := by decide +kernel
theorem dX9_fed_12 : decode cX9_fed 12 = .ok (.bipush (-2), 2) := by decide +kernel
theorem dX9_fed_14 : decode cX9_fed 14 = .ok (.ireturn, 1) := by decide +kernel
theorem dX9_given_0 : decode cX9_given 0 = .ok (.aload_n 0, 1) := by decide +kernel
theorem dX9_given_1 : decode cX9_given 1 = .ok (.iload_n 1, 1) := by decide +kernel
theorem dX9_given_2 : decode cX9_given 2 = .ok (.iload_n 2, 1) := by decide +kernel
theorem dX9_given_3 : decode cX9_given 3 = .ok (.iload_n 3, 1) := by decide +kernel
theorem dX9_given_4 : decode cX9_given 4 = .ok (.iload 4, 2) := by decide +kernel
theorem dX9_given_6 : decode cX9_given 6 = .ok (.invokevirtual 273, 3) := by decide +kernel
theorem dX9_given_9 : decode cX9_given 9 = .ok (.istore 5, 2) := by decide +kernel
theorem dX9_given_11 : decode cX9_given 11 = .ok (.iload 5, 2) := by decide +kernel
theorem dX9_given_13 : decode cX9_given 13 = .ok (.ifCond .eq 6, 3) := by decide +kernel
theorem dX9_given_16 : decode cX9_given 16 = .ok (.iload 5, 2) := by decide +kernel
theorem dX9_given_18 : decode cX9_given 18 = .ok (.ireturn, 1) := by decide +kernel
theorem dX9_asks_0 : decode cX9_asks 0 = .ok (.aload_n 0, 1) := by decide +kernel
theorem dX9_asks_1 : decode cX9_asks 1 = .ok (.getfield 67, 3) := by decide +kernel
theorem dX9_asks_4 : decode cX9_asks 4 = .ok (.iload 5, 2) := by decide +kernel
theorem dX9_asks_6 : decode cX9_asks 6 = .ok (.invokevirtual 242, 3) := by decide +kernel
theorem dX9_asks_9 : decode cX9_asks 9 = .ok (.ifCond .ne 6, 3) := by decide +kernel
theorem dX9_asks_12 : decode cX9_asks 12 = .ok (.bipush (-2), 2) := by decide +kernel
theorem dX9_asks_14 : decode cX9_asks 14 = .ok (.ireturn, 1) := by decide +kernel
theorem dX9_pays_0 : decode cX9_pays 0 = .ok (.aload_n 0, 1) := by decide +kernel
theorem dX9_pays_1 : decode cX9_pays 1 = .ok (.getfield 67, 3) := by decide +kernel
theorem dX9_pays_4 : decode cX9_pays 4 = .ok (.iload 5, 2) := by decide +kernel
theorem dX9_pays_6 : decode cX9_pays 6 = .ok (.invokevirtual 242, 3) := by decide +kernel
theorem dX9_pays_9 : decode cX9_pays 9 = .ok (.ifCond .ne 7, 3) := by decide +kernel
theorem dX9_pays_12 : decode cX9_pays 12 = .ok (.ldc2_w 106, 3) := by decide +kernel
theorem dX9_pays_15 : decode cX9_pays 15 = .ok (.lreturn, 1) := by decide +kernel
theorem dX9_burnt_0 : decode cX9_burnt 0 = .ok (.aload_n 0, 1) := by decide +kernel
theorem dX9_burnt_1 : decode cX9_burnt 1 = .ok (.getfield 67, 3) := by decide +kernel
theorem dX9_burnt_4 : decode cX9_burnt 4 = .ok (.iload_n 1, 1) := by decide +kernel
theorem dX9_burnt_5 : decode cX9_burnt 5 = .ok (.iload_n 2, 1) := by decide +kernel
theorem dX9_burnt_6 : decode cX9_burnt 6 = .ok (.invokevirtual 160, 3) := by decide +kernel
theorem dX9_burnt_9 : decode cX9_burnt 9 = .ok (.ifCond .eq 18, 3) := by decide +kernel
theorem dX9_burnt_27 : decode cX9_burnt 27 = .ok (.ldc2_w 106, 3) := by decide +kernel
theorem dX9_burnt_30 : decode cX9_burnt 30 = .ok (.lreturn, 1) := by decide +kernel
theorem dX9_spread_0 : decode cX9_spread 0 = .ok (.aload_n 0, 1) := by decide +kernel
theorem dX9_spread_1 : decode cX9_spread 1 = .ok (.getfield 67, 3) := by decide +kernel
theorem dX9_spread_4 : decode cX9_spread 4 = .ok (.iload_n 1, 1) := by decide +kernel
theorem dX9_spread_5 : decode cX9_spread 5 = .ok (.iload_n 2, 1) := by decide +kernel
theorem dX9_spread_6 : decode cX9_spread 6 = .ok (.invokevirtual 160, 3) := by decide +kernel
theorem dX9_spread_9 : decode cX9_spread 9 = .ok (.ifCond .eq 18, 3) := by decide +kernel
theorem dX9_spread_27 : decode cX9_spread 27 = .ok (.ldc2_w 106, 3) := by decide +kernel
theorem dX9_spread_30 : decode cX9_spread 30 = .ok (.lreturn, 1) := by decide +kernel
theorem dX9_bear_0 : decode cX9_bear 0 = .ok (.aload_n 0, 1) := by decide +kernel
theorem dX9_bear_1 : decode cX9_bear 1 = .ok (.getfield 67, 3) := by decide +kernel
theorem dX9_bear_4 : decode cX9_bear 4 = .ok (.iload_n 1, 1) := by decide +kernel
theorem dX9_bear_5 : decode cX9_bear 5 = .ok (.iload_n 2, 1) := by decide +kernel
theorem dX9_bear_6 : decode cX9_bear 6 = .ok (.invokevirtual 160, 3) := by decide +kernel
theorem dX9_bear_9 : decode cX9_bear 9 = .ok (.ifCond .eq 10, 3) := by decide +kernel
theorem dX9_bear_19 : decode cX9_bear 19 = .ok (.bipush (-2), 2) := by decide +kernel
theorem dX9_bear_21 : decode cX9_bear 21 = .ok (.ireturn, 1) := by decide +kernel
theorem dX9_run_0 : decode cX9_run 0 = .ok (.iload_n 1, 1) := by decide +kernel
theorem dX9_run_1 : decode cX9_run 1 = .ok (.invokestatic 301, 3) := by decide +kernel
theorem dX9_run_4 : decode cX9_run 4 = .ok (.ifCond .eq 13, 3) := by decide +kernel
theorem dX9_run_7 : decode cX9_run 7 = .ok (.aload_n 0, 1) := by decide +kernel
theorem dX9_run_8 : decode cX9_run 8 = .ok (.getfield 67, 3) := by decide +kernel
theorem dX9_run_11 : decode cX9_run 11 = .ok (.getfield 155, 3) := by decide +kernel
theorem dX9_run_14 : decode cX9_run 14 = .ok (.ifCond .ne 6, 3) := by decide +kernel
theorem dX9_run_17 : decode cX9_run 17 = .ok (.bipush (-2), 2) := by decide +kernel
theorem dX9_run_19 : decode cX9_run 19 = .ok (.ireturn, 1) := by decide +kernel
theorem dX9_told_0 : decode cX9_told 0 = .ok (.iload_n 1, 1) := by decide +kernel
theorem dX9_told_1 : decode cX9_told 1 = .ok (.invokestatic 312, 3) := by decide +kernel
theorem dX9_told_4 : decode cX9_told 4 = .ok (.ifCond .eq 13, 3) := by decide +kernel
theorem dX9_told_7 : decode cX9_told 7 = .ok (.aload_n 0, 1) := by decide +kernel
theorem dX9_told_8 : decode cX9_told 8 = .ok (.getfield 67, 3) := by decide +kernel
theorem dX9_told_11 : decode cX9_told 11 = .ok (.getfield 155, 3) := by decide +kernel
theorem dX9_told_14 : decode cX9_told 14 = .ok (.ifCond .ne 6, 3) := by decide +kernel
theorem dX9_told_17 : decode cX9_told 17 = .ok (.bipush (-2), 2) := by decide +kernel
theorem dX9_told_19 : decode cX9_told 19 = .ok (.ireturn, 1) := by decide +kernel
theorem dX9_shut_0 : decode cX9_shut 0 = .ok (.aload_n 0, 1) := by decide +kernel
theorem dX9_shut_1 : decode cX9_shut 1 = .ok (.getfield 67, 3) := by decide +kernel
theorem dX9_shut_4 : decode cX9_shut 4 = .ok (.iload_n 1, 1) := by decide +kernel
theorem dX9_shut_5 : decode cX9_shut 5 = .ok (.invokevirtual 99, 3) := by decide +kernel
theorem dX9_shut_8 : decode cX9_shut 8 = .ok (.ifCond .ne 6, 3) := by decide +kernel
theorem dX9_shut_11 : decode cX9_shut 11 = .ok (.bipush (-2), 2) := by decide +kernel
theorem dX9_shut_13 : decode cX9_shut 13 = .ok (.ireturn, 1) := by decide +kernel
theorem dX9_lacks_0 : decode cX9_lacks 0 = .ok (.aload_n 0, 1) := by decide +kernel
theorem dX9_lacks_1 : decode cX9_lacks 1 = .ok (.getfield 67, 3) := by decide +kernel
theorem dX9_lacks_4 : decode cX9_lacks 4 = .ok (.iload_n 1, 1) := by decide +kernel
theorem dX9_lacks_5 : decode cX9_lacks 5 = .ok (.iload_n 2, 1) := by decide +kernel
theorem dX9_lacks_6 : decode cX9_lacks 6 = .ok (.invokevirtual 160, 3) := by decide +kernel
theorem dX9_lacks_9 : decode cX9_lacks 9 = .ok (.ifCond .eq 21, 3) := by decide +kernel
theorem dX9_lacks_30 : decode cX9_lacks 30 = .ok (.bipush (-2), 2) := by decide +kernel
theorem dX9_lacks_32 : decode cX9_lacks 32 = .ok (.ireturn, 1) := by decide +kernel
theorem dX9_judge_0 : decode cX9_judge 0 = .ok (.iload_n 1, 1) := by decide +kernel
theorem dX9_judge_1 : decode cX9_judge 1 = .ok (.invokestatic 312, 3) := by decide +kernel
theorem dX9_judge_4 : decode cX9_judge 4 = .ok (.ifCond .eq 14, 3) := by decide +kernel
theorem dX9_judge_7 : decode cX9_judge 7 = .ok (.aload_n 0, 1) := by decide +kernel
theorem dX9_judge_8 : decode cX9_judge 8 = .ok (.getfield 67, 3) := by decide +kernel
theorem dX9_judge_11 : decode cX9_judge 11 = .ok (.iload_n 2, 1) := by decide +kernel
theorem dX9_judge_12 : decode cX9_judge 12 = .ok (.invokevirtual 99, 3) := by decide +kernel
theorem dX9_judge_15 : decode cX9_judge 15 = .ok (.ifCond .ne 6, 3) := by decide +kernel
theorem dX9_judge_18 : decode cX9_judge 18 = .ok (.bipush (-2), 2) := by decide +kernel
theorem dX9_judge_20 : decode cX9_judge 20 = .ok (.ireturn, 1) := by decide +kernel
theorem dX9_paid_0 : decode cX9_paid 0 = .ok (.iload_n 1, 1) := by decide +kernel
theorem dX9_paid_1 : decode cX9_paid 1 = .ok (.invokestatic 312, 3) := by decide +kernel
theorem dX9_paid_4 : decode cX9_paid 4 = .ok (.ifCond .eq 22, 3) := by decide +kernel
theorem dX9_paid_7 : decode cX9_paid 7 = .ok (.aload_n 0, 1) := by decide +kernel
theorem dX9_paid_8 : decode cX9_paid 8 = .ok (.getfield 67, 3) := by decide +kernel
theorem dX9_paid_11 : decode cX9_paid 11 = .ok (.iload_n 2, 1) := by decide +kernel
theorem dX9_paid_12 : decode cX9_paid 12 = .ok (.iload_n 3, 1) := by decide +kernel
theorem dX9_paid_13 : decode cX9_paid 13 = .ok (.invokevirtual 160, 3) := by decide +kernel
theorem dX9_paid_16 : decode cX9_paid 16 = .ok (.ifCond .eq 10, 3) := by decide +kernel
theorem dX9_paid_26 : decode cX9_paid 26 = .ok (.ldc2_w 176, 3) := by decide +kernel
theorem dX9_paid_29 : decode cX9_paid 29 = .ok (.lreturn, 1) := by decide +kernel
theorem dX9_years_0 : decode cX9_years 0 = .ok (.iload_n 1, 1) := by decide +kernel
theorem dX9_years_1 : decode cX9_years 1 = .ok (.invokestatic 301, 3) := by decide +kernel
theorem dX9_years_4 : decode cX9_years 4 = .ok (.ifCond .eq 25, 3) := by decide +kernel
theorem dX9_years_7 : decode cX9_years 7 = .ok (.iload_n 2, 1) := by decide +kernel
theorem dX9_years_8 : decode cX9_years 8 = .ok (.iconst 1, 1) := by decide +kernel
theorem dX9_years_9 : decode cX9_years 9 = .ok (.if_icmp .lt 20, 3) := by decide +kernel
theorem dX9_years_29 : decode cX9_years 29 = .ok (.bipush (-2), 2) := by decide +kernel
theorem dX9_years_31 : decode cX9_years 31 = .ok (.ireturn, 1) := by decide +kernel
theorem dX9_years_12 : decode cX9_years 12 = .ok (.iload_n 2, 1) := by decide +kernel
theorem dX9_years_13 : decode cX9_years 13 = .ok (.bipush 100, 2) := by decide +kernel
theorem dX9_years_15 : decode cX9_years 15 = .ok (.if_icmp .gt 14, 3) := by decide +kernel
theorem dX9_years_18 : decode cX9_years 18 = .ok (.iload 6, 2) := by decide +kernel
theorem dX9_years_20 : decode cX9_years 20 = .ok (.ifCond .lt 9, 3) := by decide +kernel
theorem dX9_years_23 : decode cX9_years 23 = .ok (.iload 6, 2) := by decide +kernel
theorem dX9_years_25 : decode cX9_years 25 = .ok (.iconst 3, 1) := by decide +kernel
theorem dX9_years_26 : decode cX9_years 26 = .ok (.if_icmp .le 6, 3) := by decide +kernel
theorem dX9_years_32 : decode cX9_years 32 = .ok (.aload_n 0, 1) := by decide +kernel
theorem dX9_years_33 : decode cX9_years 33 = .ok (.getfield 67, 3) := by decide +kernel
theorem dX9_years_36 : decode cX9_years 36 = .ok (.iload_n 3, 1) := by decide +kernel
theorem dX9_years_37 : decode cX9_years 37 = .ok (.iload 4, 2) := by decide +kernel
theorem dX9_years_39 : decode cX9_years 39 = .ok (.invokevirtual 160, 3) := by decide +kernel
theorem dX9_years_42 : decode cX9_years 42 = .ok (.ifCond .eq 11, 3) := by decide +kernel
theorem dX9_years_53 : decode cX9_years 53 = .ok (.bipush (-2), 2) := by decide +kernel
theorem dX9_years_55 : decode cX9_years 55 = .ok (.ireturn, 1) := by decide +kernel
theorem sS_X9_312 : SiteS RX9 312 yX9_isSlot cX9_isSlot 1 (some .boolean) 1 := ⟨ml_X9_312, st_X9_isSlot, ini_X9, co_X9_isSlot, by decide +kernel⟩
theorem sV_X9_99 : SiteV RX9 99 yX2_hasValley cX2_hasValley 2 (some .boolean) 1 := ⟨ml_X9_99, im_X2_hasValley, se_X2_hasValley, ini_X2, co_X2_hasValley, by decide +kernel⟩
theorem sV_X9_125 : SiteV RX9 125 yX2_hasTwo cX2_hasTwo 3 (some .boolean) 2 := ⟨ml_X9_125, im_X2_hasTwo, se_X2_hasTwo, ini_X2, co_X2_hasTwo, by decide +kernel⟩
theorem sV_X9_122 : SiteV RX9 122 yX2_hasDay cX2_hasDay 2 (some .boolean) 1 := ⟨ml_X9_122, im_X2_hasDay, se_X2_hasDay, ini_X2, co_X2_hasDay, by decide +kernel⟩
theorem sV_X9_160 : SiteV RX9 160 yX2_hasStore cX2_hasStore 3 (some .boolean) 2 := ⟨ml_X9_160, im_X2_hasStore, se_X2_hasStore, ini_X2, co_X2_hasStore, by decide +kernel⟩
theorem sV_X9_242 : SiteV RX9 242 yX2_hasThing cX2_hasThing 2 (some .boolean) 1 := ⟨ml_X9_242, im_X2_hasThing, se_X2_hasThing, ini_X2, co_X2_hasThing, by decide +kernel⟩
theorem sV_X9_273 : SiteV RX9 273 yX9_shareState cX9_shareState 6 (some .int) 4 := ⟨ml_X9_273, im_X9_shareState, se_X9_shareState, ini_X9, co_X9_shareState, by decide +kernel⟩
theorem sS_X9_301 : SiteS RX9 301 yX9_isSeed cX9_isSeed 1 (some .boolean) 1 := ⟨ml_X9_301, st_X9_isSeed, ini_X9, co_X9_isSeed, by decide +kernel⟩
set_option maxHeartbeats 4000000 in
set_option maxRecDepth 100000 in
theorem f_shareState (l : Launch) (D : va_G) (cy : Nat → ClassId) (xa : Nat → Nat) (a : Int32) (b : Int32) (c1 : Int32) (d1 : Int32) : MM l yX9_shareState cX9_shareState 6 (some .int) 1 0 0 D cy [.ref (xa 0), .int a, .int b, .int c1, .int d1] (fun H => va_P D vwCl [((xa 0), .inr (9, [.ref (xa 1), .ref (xa 2), .ref (xa 3), .ref (xa 4), .ref (xa 5), .ref (xa 6), .ref (xa 7), .ref (xa 8), .ref (xa 9), .int 0, .ref (xa 11), .null, .int 0, .int (-1)])), ((xa 11), .inr (2, [.int 0, .int 0, .int 0, .int 0, .int 0, .int 0, .int 0, .int 0, .int 1, .int 10, .int 0, .int 0, .int 0, .int 0, .ref (xa 20), .ref (xa 21), .ref (xa 22), .ref (xa 23), .ref (xa 24), .ref (xa 25), .ref (xa 26)]))] H) (PuI (fun r => r = (-2))) noF := by
  refine MM.of (by decide) (Nat.le_of_ble_eq_true rfl) ?_
  intro p e s m below meth c C hP ls hl
  obtain ⟨hx, hb, hr, hml, hown, hts, hlocks, hK, hnm⟩ := C
  have hP : va_P D vwCl [((xa 0), .inr (9, [.ref (xa 1), .ref (xa 2), .ref (xa 3), .ref (xa 4), .ref (xa 5), .ref (xa 6), .ref (xa 7), .ref (xa 8), .ref (xa 9), .int 0, .ref (xa 11), .null, .int 0, .int (-1)])), ((xa 11), .inr (2, [.int 0, .int 0, .int 0, .int 0, .int 0, .int 0, .int 0, .int 0, .int 1, .int 10, .int 0, .int 0, .int 0, .int 0, .ref (xa 20), .ref (xa 21), .ref (xa 22), .ref (xa 23), .ref (xa 24), .ref (xa 25), .ref (xa 26)]))] s.heap := hP
  have hl : lv_has ls 6 [(0, .ref (xa 0)), (1, .int a), (2, .int b), (3, .int c1), (4, .int d1)] := hl
  refine lv_iload_n hx hb dX9_shareState_0 rfl (lv_at hl 1 rfl) ?_
  refine pu_calli (runS (As := [.int a]) (rest := []) ⟨hx, hb, hml, hown, hts⟩ (f_isSlot l D cy a ) sS_X9_312 hK (hP.sub (ws' := []) [] rfl) ⟨Nat.le_of_ble_eq_true rfl, Nat.le_of_ble_eq_true rfl⟩ rfl hl.1 rfl (Nat.le_of_ble_eq_true rfl) dX9_shareState_1 ⟨Nat.le_of_ble_eq_true rfl, Nat.le_of_ble_eq_true rfl⟩) (fun r_1 hr_1 => ?_)
  rcases hr_1 with hr_1_0 | hr_1_1
  · skip
    obtain ⟨er_1, hr_1_0_f0, hr_1_0_f1⟩ := hr_1_0
    have hr_1_0_f0 : 0 ≤ a.toInt := hr_1_0_f0
    have hr_1_0_f1 : a.toInt ≤ 3 := hr_1_0_f1
    subst er_1
    refine W.eq (g2 := F0 m 4 ls [.int 1]) rfl ?_
    refine lv_if_eq (tgt := 39) hx hb dX9_shareState_4 (by decide) (fun c_2 => absurd c_2 (by decide)) (fun _ => ?_)
    refine lv_iload_n hx hb dX9_shareState_7 rfl (lv_at hl 2 rfl) ?_
    refine lv_if_lt (tgt := 39) hx hb dX9_shareState_8 (by decide) (fun c_3 => ?_) (fun c_3 => ?_)
    · skip
      have tc_3 : b.toInt < 0 := (fa_lt _ _).mp c_3
      refine lv_bipush (v := (-2)) hx hb dX9_shareState_39 (by decide) ?_
      exact ret_i hx hb hr hlocks ⟨rfl, _, rfl, rfl⟩ (fun _ h => absurd h List.not_mem_nil) (Nat.le_refl _) (Nat.le_refl _) dX9_shareState_41
    · skip
      have tc_3 : ¬ b.toInt < 0 := fun h => c_3 ((fa_lt _ _).mpr h)
      refine lv_iload_n hx hb dX9_shareState_11 rfl (lv_at hl 2 rfl) ?_
      refine lv_iconst (v := 1) hx hb dX9_shareState_12 (by decide) ?_
      refine lv_icmp_gt (tgt := 39) hx hb dX9_shareState_13 (by decide) (fun c_4 => ?_) (fun c_4 => ?_)
      · skip
        have tc_4 : 1 < b.toInt := (fa_lt _ _).mp c_4
        refine lv_bipush (v := (-2)) hx hb dX9_shareState_39 (by decide) ?_
        exact ret_i hx hb hr hlocks ⟨rfl, _, rfl, rfl⟩ (fun _ h => absurd h List.not_mem_nil) (Nat.le_refl _) (Nat.le_refl _) dX9_shareState_41
      · skip
        have tc_4 : ¬ 1 < b.toInt := fun h => c_4 ((fa_lt _ _).mpr h)
        refine lv_iload_n hx hb dX9_shareState_16 rfl (lv_at hl 3 rfl) ?_
        refine lv_if_lt (tgt := 39) hx hb dX9_shareState_17 (by decide) (fun c_5 => ?_) (fun c_5 => ?_)
        · skip
          have tc_5 : c1.toInt < 0 := (fa_lt _ _).mp c_5
          refine lv_bipush (v := (-2)) hx hb dX9_shareState_39 (by decide) ?_
          exact ret_i hx hb hr hlocks ⟨rfl, _, rfl, rfl⟩ (fun _ h => absurd h List.not_mem_nil) (Nat.le_refl _) (Nat.le_refl _) dX9_shareState_41
        · skip
          have tc_5 : ¬ c1.toInt < 0 := fun h => c_5 ((fa_lt _ _).mpr h)
          refine lv_iload_n hx hb dX9_shareState_20 rfl (lv_at hl 3 rfl) ?_
          refine lv_ldcw (v := 99999) hx hb hown (hts _ ki_X9_384) dX9_shareState_21 ?_
          refine lv_icmp_gt (tgt := 39) hx hb dX9_shareState_24 (by decide) (fun c_6 => ?_) (fun c_6 => ?_)
          · skip
            have tc_6 : 99999 < c1.toInt := (fa_lt _ _).mp c_6
            refine lv_bipush (v := (-2)) hx hb dX9_shareState_39 (by decide) ?_
            exact ret_i hx hb hr hlocks ⟨rfl, _, rfl, rfl⟩ (fun _ h => absurd h List.not_mem_nil) (Nat.le_refl _) (Nat.le_refl _) dX9_shareState_41
          · skip
            have tc_6 : ¬ 99999 < c1.toInt := fun h => c_6 ((fa_lt _ _).mpr h)
            refine lv_aload_n hx hb dX9_shareState_27 rfl (lv_at hl 0 rfl) ?_
            refine va_get (D := D) (ci := 9) (v := .ref (xa 11)) (C := RX9) (T := TX9) (N := 14) hx hb hts lay_X9 hown hK.1 hP 0 rfl rfl 10 (by decide) (hts _ fl_X9_67) (fun _ h9 => h9) rfl dX9_shareState_28 ?_
            refine lv_iload hx hb dX9_shareState_31 (lv_at hl 4 rfl) ?_
            refine pu_calli (runV (As := [.int d1]) (rest := []) ⟨hx, hb, hml, hown, hts⟩ (f_hasValley l D cy xa d1 ) sV_X9_99 hK (va_recv hK.1 hP (ci := 2) (q0 := 1) rfl rfl) (hP.sub (ws' := [((xa 11), .inr (2, [.int 0, .int 0, .int 0, .int 0, .int 0, .int 0, .int 0, .int 0, .int 1, .int 10, .int 0, .int 0, .int 0, .int 0, .ref (xa 20), .ref (xa 21), .ref (xa 22), .ref (xa 23), .ref (xa 24), .ref (xa 25), .ref (xa 26)]))]) [1] rfl) ⟨Nat.le_of_ble_eq_true rfl, Nat.le_of_ble_eq_true rfl⟩ rfl hl.1 rfl (Nat.le_of_ble_eq_true rfl) dX9_shareState_33 ⟨Nat.le_of_ble_eq_true rfl, Nat.le_of_ble_eq_true rfl⟩) (fun r_7 hr_7 => ?_)
            have er_7 := hr_7
            subst er_7
            refine W.eq (g2 := F0 m 36 ls [.int 0]) rfl ?_
            refine lv_if_ne (tgt := 42) hx hb dX9_shareState_36 (by decide) (fun c_8 => absurd rfl c_8) (fun _ => ?_)
            refine lv_bipush (v := (-2)) hx hb dX9_shareState_39 (by decide) ?_
            exact ret_i hx hb hr hlocks ⟨rfl, _, rfl, rfl⟩ (fun _ h => absurd h List.not_mem_nil) (Nat.le_refl _) (Nat.le_refl _) dX9_shareState_41
  · skip
    obtain ⟨er_1, hr_1_1_f0⟩ := hr_1_1
    have hr_1_1_f0 : (a.toInt < 0 ∨ 3 < a.toInt) := hr_1_1_f0
    subst er_1
    refine W.eq (g2 := F0 m 4 ls [.int 0]) rfl ?_
    refine lv_if_eq (tgt := 39) hx hb dX9_shareState_4 (by decide) (fun _ => ?_) (fun c_9 => absurd (by decide) c_9)
    refine lv_bipush (v := (-2)) hx hb dX9_shareState_39 (by decide) ?_
    exact ret_i hx hb hr hlocks ⟨rfl, _, rfl, rfl⟩ (fun _ h => absurd h List.not_mem_nil) (Nat.le_refl _) (Nat.le_refl _) dX9_shareState_41
set_option maxHeartbeats 4000000 in
set_option maxRecDepth 100000 in
theorem f_X9_shuts (l : Launch) (D : va_G) (cy : Nat → ClassId) (xa : Nat → Nat) (n0 : Int32) (n1 : Int32) : MM l yX9_shuts cX9_shuts 3 (some .long) 1 0 0 D cy [.ref (xa 0), .int n0, .int n1] (fun H => va_P D vwCl [((xa 0), .inr (9, [.ref (xa 1), .ref (xa 2), .ref (xa 3), .ref (xa 4), .ref (xa 5), .ref (xa 6), .ref (xa 7), .ref (xa 8), .ref (xa 9), .int 0, .ref (xa 11), .null, .int 0, .int (-1)])), ((xa 11), .inr (2, [.int 0, .int 0, .int 0, .int 0, .int 0, .int 0, .int 0, .int 0, .int 1, .int 10, .int 0, .int 0, .int 0, .int 0, .ref (xa 20), .ref (xa 21), .ref (xa 22), .ref (xa 23), .ref (xa 24), .ref (xa 25), .ref (xa 26)]))] H) (PuL (fun r => r = (-2))) noF := by
  refine MM.of (by decide) (Nat.le_of_ble_eq_true rfl) ?_
  intro p e s m below meth c C hP ls hl
  obtain ⟨hx, hb, hr, hml, hown, hts, hlocks, hK, hnm⟩ := C
  have hP : va_P D vwCl [((xa 0), .inr (9, [.ref (xa 1), .ref (xa 2), .ref (xa 3), .ref (xa 4), .ref (xa 5), .ref (xa 6), .ref (xa 7), .ref (xa 8), .ref (xa 9), .int 0, .ref (xa 11), .null, .int 0, .int (-1)])), ((xa 11), .inr (2, [.int 0, .int 0, .int 0, .int 0, .int 0, .int 0, .int 0, .int 0, .int 1, .int 10, .int 0, .int 0, .int 0, .int 0, .ref (xa 20), .ref (xa 21), .ref (xa 22), .ref (xa 23), .ref (xa 24), .ref (xa 25), .ref (xa 26)]))] s.heap := hP
  have hl : lv_has ls 3 [(0, .ref (xa 0)), (1, .int n0), (2, .int n1)] := hl
  refine lv_aload_n hx hb dX9_shuts_0 rfl (lv_at hl 0 rfl) ?_
  refine va_get (D := D) (ci := 9) (v := .ref (xa 11)) (C := RX9) (T := TX9) (N := 14) hx hb hts lay_X9 hown hK.1 hP 0 rfl rfl 10 (by decide) (hts _ fl_X9_67) (fun _ h9 => h9) rfl dX9_shuts_1 ?_
  refine lv_iload_n hx hb dX9_shuts_4 rfl (lv_at hl 1 rfl) ?_
  refine pu_calli (runV (As := [.int n0]) (rest := []) ⟨hx, hb, hml, hown, hts⟩ (f_hasValley l D cy xa n0 ) sV_X9_99 hK (va_recv hK.1 hP (ci := 2) (q0 := 1) rfl rfl) (hP.sub (ws' := [((xa 11), .inr (2, [.int 0, .int 0, .int 0, .int 0, .int 0, .int 0, .int 0, .int 0, .int 1, .int 10, .int 0, .int 0, .int 0, .int 0, .ref (xa 20), .ref (xa 21), .ref (xa 22), .ref (xa 23), .ref (xa 24), .ref (xa 25), .ref (xa 26)]))]) [1] rfl) ⟨Nat.le_of_ble_eq_true rfl, Nat.le_of_ble_eq_true rfl⟩ rfl hl.1 rfl (Nat.le_of_ble_eq_true rfl) dX9_shuts_5 ⟨Nat.le_of_ble_eq_true rfl, Nat.le_of_ble_eq_true rfl⟩) (fun r_1 hr_1 => ?_)
  have er_1 := hr_1
  subst er_1
  refine W.eq (g2 := F0 m 8 ls [.int 0]) rfl ?_
  refine lv_if_eq (tgt := 22) hx hb dX9_shuts_8 (by decide) (fun _ => ?_) (fun c_2 => absurd (by decide) c_2)
  refine lv_ldc2 (v := (-2)) hx hb hown (hts _ kl_X9_106) dX9_shuts_22 ?_
  exact ret_l hx hb hr hlocks ⟨rfl, _, rfl, rfl⟩ (fun _ h => absurd h List.not_mem_nil) (Nat.le_refl _) (Nat.le_refl _) dX9_shuts_25
set_option maxHeartbeats 4000000 in
set_option maxRecDepth 100000 in
theorem f_X9_by (l : Launch) (D : va_G) (cy : Nat → ClassId) (xa : Nat → Nat) (n0 : Int32) (n1 : Int32) : MM l yX9_by cX9_by 6 (some .long) 1 0 0 D cy [.ref (xa 0), .int n0, .int n1] (fun H => va_P D vwCl [((xa 0), .inr (9, [.ref (xa 1), .ref (xa 2), .ref (xa 3), .ref (xa 4), .ref (xa 5), .ref (xa 6), .ref (xa 7), .ref (xa 8), .ref (xa 9), .int 0, .ref (xa 11), .null, .int 0, .int (-1)])), ((xa 11), .inr (2, [.int 0, .int 0, .int 0, .int 0, .int 0, .int 0, .int 0, .int 0, .int 1, .int 10, .int 0, .int 0, .int 0, .int 0, .ref (xa 20), .ref (xa 21), .ref (xa 22), .ref (xa 23), .ref (xa 24), .ref (xa 25), .ref (xa 26)]))] H) (PuL (fun r => r = (-2))) noF := by
  refine MM.of (by decide) (Nat.le_of_ble_eq_true rfl) ?_
  intro p e s m below meth c C hP ls hl
  obtain ⟨hx, hb, hr, hml, hown, hts, hlocks, hK, hnm⟩ := C
  have hP : va_P D vwCl [((xa 0), .inr (9, [.ref (xa 1), .ref (xa 2), .ref (xa 3), .ref (xa 4), .ref (xa 5), .ref (xa 6), .ref (xa 7), .ref (xa 8), .ref (xa 9), .int 0, .ref (xa 11), .null, .int 0, .int (-1)])), ((xa 11), .inr (2, [.int 0, .int 0, .int 0, .int 0, .int 0, .int 0, .int 0, .int 0, .int 1, .int 10, .int 0, .int 0, .int 0, .int 0, .ref (xa 20), .ref (xa 21), .ref (xa 22), .ref (xa 23), .ref (xa 24), .ref (xa 25), .ref (xa 26)]))] s.heap := hP
  have hl : lv_has ls 6 [(0, .ref (xa 0)), (1, .int n0), (2, .int n1)] := hl
  refine lv_aload_n hx hb dX9_by_0 rfl (lv_at hl 0 rfl) ?_
  refine va_get (D := D) (ci := 9) (v := .ref (xa 11)) (C := RX9) (T := TX9) (N := 14) hx hb hts lay_X9 hown hK.1 hP 0 rfl rfl 10 (by decide) (hts _ fl_X9_67) (fun _ h9 => h9) rfl dX9_by_1 ?_
  refine lv_iload_n hx hb dX9_by_4 rfl (lv_at hl 1 rfl) ?_
  refine pu_calli (runV (As := [.int n0]) (rest := []) ⟨hx, hb, hml, hown, hts⟩ (f_hasValley l D cy xa n0 ) sV_X9_99 hK (va_recv hK.1 hP (ci := 2) (q0 := 1) rfl rfl) (hP.sub (ws' := [((xa 11), .inr (2, [.int 0, .int 0, .int 0, .int 0, .int 0, .int 0, .int 0, .int 0, .int 1, .int 10, .int 0, .int 0, .int 0, .int 0, .ref (xa 20), .ref (xa 21), .ref (xa 22), .ref (xa 23), .ref (xa 24), .ref (xa 25), .ref (xa 26)]))]) [1] rfl) ⟨Nat.le_of_ble_eq_true rfl, Nat.le_of_ble_eq_true rfl⟩ rfl hl.1 rfl (Nat.le_of_ble_eq_true rfl) dX9_by_5 ⟨Nat.le_of_ble_eq_true rfl, Nat.le_of_ble_eq_true rfl⟩) (fun r_1 hr_1 => ?_)
  have er_1 := hr_1
  subst er_1
  refine W.eq (g2 := F0 m 8 ls [.int 0]) rfl ?_
  refine lv_if_eq (tgt := 22) hx hb dX9_by_8 (by decide) (fun _ => ?_) (fun c_2 => absurd (by decide) c_2)
  refine lv_ldc2 (v := (-2)) hx hb hown (hts _ kl_X9_106) dX9_by_22 ?_
  exact ret_l hx hb hr hlocks ⟨rfl, _, rfl, rfl⟩ (fun _ h => absurd h List.not_mem_nil) (Nat.le_refl _) (Nat.le_refl _) dX9_by_25
set_option maxHeartbeats 4000000 in
set_option maxRecDepth 100000 in
theorem f_X9_both (l : Launch) (D : va_G) (cy : Nat → ClassId) (xa : Nat → Nat) (n0 : Int32) (n1 : Int32) (n2 : Int32) (n3 : Int32) : MM l yX9_both cX9_both 5 (some .long) 2 0 0 D cy [.ref (xa 0), .int n0, .int n1, .int n2, .int n3] (fun H => va_P D vwCl [((xa 0), .inr (9, [.ref (xa 1), .ref (xa 2), .ref (xa 3), .ref (xa 4), .ref (xa 5), .ref (xa 6), .ref (xa 7), .ref (xa 8), .ref (xa 9), .int 0, .ref (xa 11), .null, .int 0, .int (-1)])), ((xa 11), .inr (2, [.int 0, .int 0, .int 0, .int 0, .int 0, .int 0, .int 0, .int 0, .int 1, .int 10, .int 0, .int 0, .int 0, .int 0, .ref (xa 20), .ref (xa 21), .ref (xa 22), .ref (xa 23), .ref (xa 24), .ref (xa 25), .ref (xa 26)]))] H) (PuL (fun r => r = (-2))) noF := by
  refine MM.of (by decide) (Nat.le_of_ble_eq_true rfl) ?_
  intro p e s m below meth c C hP ls hl
  obtain ⟨hx, hb, hr, hml, hown, hts, hlocks, hK, hnm⟩ := C
  have hP : va_P D vwCl [((xa 0), .inr (9, [.ref (xa 1), .ref (xa 2), .ref (xa 3), .ref (xa 4), .ref (xa 5), .ref (xa 6), .ref (xa 7), .ref (xa 8), .ref (xa 9), .int 0, .ref (xa 11), .null, .int 0, .int (-1)])), ((xa 11), .inr (2, [.int 0, .int 0, .int 0, .int 0, .int 0, .int 0, .int 0, .int 0, .int 1, .int 10, .int 0, .int 0, .int 0, .int 0, .ref (xa 20), .ref (xa 21), .ref (xa 22), .ref (xa 23), .ref (xa 24), .ref (xa 25), .ref (xa 26)]))] s.heap := hP
  have hl : lv_has ls 5 [(0, .ref (xa 0)), (1, .int n0), (2, .int n1), (3, .int n2), (4, .int n3)] := hl
  refine lv_aload_n hx hb dX9_both_0 rfl (lv_at hl 0 rfl) ?_
  refine va_get (D := D) (ci := 9) (v := .ref (xa 11)) (C := RX9) (T := TX9) (N := 14) hx hb hts lay_X9 hown hK.1 hP 0 rfl rfl 10 (by decide) (hts _ fl_X9_67) (fun _ h9 => h9) rfl dX9_both_1 ?_
  refine lv_iload_n hx hb dX9_both_4 rfl (lv_at hl 1 rfl) ?_
  refine lv_iload_n hx hb dX9_both_5 rfl (lv_at hl 3 rfl) ?_
  refine pu_calli (runV (As := [.int n0, .int n2]) (rest := []) ⟨hx, hb, hml, hown, hts⟩ (f_hasTwo l D cy xa n0 n2 ) sV_X9_125 hK (va_recv hK.1 hP (ci := 2) (q0 := 1) rfl rfl) (hP.sub (ws' := [((xa 11), .inr (2, [.int 0, .int 0, .int 0, .int 0, .int 0, .int 0, .int 0, .int 0, .int 1, .int 10, .int 0, .int 0, .int 0, .int 0, .ref (xa 20), .ref (xa 21), .ref (xa 22), .ref (xa 23), .ref (xa 24), .ref (xa 25), .ref (xa 26)]))]) [1] rfl) ⟨Nat.le_of_ble_eq_true rfl, Nat.le_of_ble_eq_true rfl⟩ rfl hl.1 rfl (Nat.le_of_ble_eq_true rfl) dX9_both_6 ⟨Nat.le_of_ble_eq_true rfl, Nat.le_of_ble_eq_true rfl⟩) (fun r_1 hr_1 => ?_)
  have er_1 := hr_1
  subst er_1
  refine W.eq (g2 := F0 m 9 ls [.int 0]) rfl ?_
  refine lv_if_eq (tgt := 35) hx hb dX9_both_9 (by decide) (fun _ => ?_) (fun c_2 => absurd (by decide) c_2)
  refine lv_ldc2 (v := (-2)) hx hb hown (hts _ kl_X9_106) dX9_both_35 ?_
  exact ret_l hx hb hr hlocks ⟨rfl, _, rfl, rfl⟩ (fun _ h => absurd h List.not_mem_nil) (Nat.le_refl _) (Nat.le_refl _) dX9_both_38
set_option maxHeartbeats 4000000 in
set_option maxRecDepth 100000 in
theorem f_X9_together (l : Launch) (D : va_G) (cy : Nat → ClassId) (xa : Nat → Nat) (n0 : Int32) (n1 : Int32) : MM l yX9_together cX9_together 6 (some .long) 1 0 0 D cy [.ref (xa 0), .int n0, .int n1] (fun H => va_P D vwCl [((xa 0), .inr (9, [.ref (xa 1), .ref (xa 2), .ref (xa 3), .ref (xa 4), .ref (xa 5), .ref (xa 6), .ref (xa 7), .ref (xa 8), .ref (xa 9), .int 0, .ref (xa 11), .null, .int 0, .int (-1)])), ((xa 11), .inr (2, [.int 0, .int 0, .int 0, .int 0, .int 0, .int 0, .int 0, .int 0, .int 1, .int 10, .int 0, .int 0, .int 0, .int 0, .ref (xa 20), .ref (xa 21), .ref (xa 22), .ref (xa 23), .ref (xa 24), .ref (xa 25), .ref (xa 26)]))] H) (PuL (fun r => r = (-2))) noF := by
  refine MM.of (by decide) (Nat.le_of_ble_eq_true rfl) ?_
  intro p e s m below meth c C hP ls hl
  obtain ⟨hx, hb, hr, hml, hown, hts, hlocks, hK, hnm⟩ := C
  have hP : va_P D vwCl [((xa 0), .inr (9, [.ref (xa 1), .ref (xa 2), .ref (xa 3), .ref (xa 4), .ref (xa 5), .ref (xa 6), .ref (xa 7), .ref (xa 8), .ref (xa 9), .int 0, .ref (xa 11), .null, .int 0, .int (-1)])), ((xa 11), .inr (2, [.int 0, .int 0, .int 0, .int 0, .int 0, .int 0, .int 0, .int 0, .int 1, .int 10, .int 0, .int 0, .int 0, .int 0, .ref (xa 20), .ref (xa 21), .ref (xa 22), .ref (xa 23), .ref (xa 24), .ref (xa 25), .ref (xa 26)]))] s.heap := hP
  have hl : lv_has ls 6 [(0, .ref (xa 0)), (1, .int n0), (2, .int n1)] := hl
  refine lv_aload_n hx hb dX9_together_0 rfl (lv_at hl 0 rfl) ?_
  refine va_get (D := D) (ci := 9) (v := .ref (xa 11)) (C := RX9) (T := TX9) (N := 14) hx hb hts lay_X9 hown hK.1 hP 0 rfl rfl 10 (by decide) (hts _ fl_X9_67) (fun _ h9 => h9) rfl dX9_together_1 ?_
  refine lv_iload_n hx hb dX9_together_4 rfl (lv_at hl 1 rfl) ?_
  refine pu_calli (runV (As := [.int n0]) (rest := []) ⟨hx, hb, hml, hown, hts⟩ (f_hasDay l D cy xa n0 ) sV_X9_122 hK (va_recv hK.1 hP (ci := 2) (q0 := 1) rfl rfl) (hP.sub (ws' := [((xa 11), .inr (2, [.int 0, .int 0, .int 0, .int 0, .int 0, .int 0, .int 0, .int 0, .int 1, .int 10, .int 0, .int 0, .int 0, .int 0, .ref (xa 20), .ref (xa 21), .ref (xa 22), .ref (xa 23), .ref (xa 24), .ref (xa 25), .ref (xa 26)]))]) [1] rfl) ⟨Nat.le_of_ble_eq_true rfl, Nat.le_of_ble_eq_true rfl⟩ rfl hl.1 rfl (Nat.le_of_ble_eq_true rfl) dX9_together_5 ⟨Nat.le_of_ble_eq_true rfl, Nat.le_of_ble_eq_true rfl⟩) (fun r_1 hr_1 => ?_)
  have er_1 := hr_1
  subst er_1
  refine W.eq (g2 := F0 m 8 ls [.int 0]) rfl ?_
  refine lv_if_eq (tgt := 26) hx hb dX9_together_8 (by decide) (fun _ => ?_) (fun c_2 => absurd (by decide) c_2)
  refine lv_ldc2 (v := (-2)) hx hb hown (hts _ kl_X9_106) dX9_together_26 ?_
  exact ret_l hx hb hr hlocks ⟨rfl, _, rfl, rfl⟩ (fun _ h => absurd h List.not_mem_nil) (Nat.le_refl _) (Nat.le_refl _) dX9_together_29
set_option maxHeartbeats 4000000 in
set_option maxRecDepth 100000 in
theorem f_X9_set (l : Launch) (D : va_G) (cy : Nat → ClassId) (xa : Nat → Nat) (n0 : Int32) (n1 : Int32) : MM l yX9_set cX9_set 3 (some .long) 1 0 0 D cy [.ref (xa 0), .int n0, .int n1] (fun H => va_P D vwCl [((xa 0), .inr (9, [.ref (xa 1), .ref (xa 2), .ref (xa 3), .ref (xa 4), .ref (xa 5), .ref (xa 6), .ref (xa 7), .ref (xa 8), .ref (xa 9), .int 0, .ref (xa 11), .null, .int 0, .int (-1)])), ((xa 11), .inr (2, [.int 0, .int 0, .int 0, .int 0, .int 0, .int 0, .int 0, .int 0, .int 1, .int 10, .int 0, .int 0, .int 0, .int 0, .ref (xa 20), .ref (xa 21), .ref (xa 22), .ref (xa 23), .ref (xa 24), .ref (xa 25), .ref (xa 26)]))] H) (PuL (fun r => r = (-2))) noF := by
  refine MM.of (by decide) (Nat.le_of_ble_eq_true rfl) ?_
  intro p e s m below meth c C hP ls hl
  obtain ⟨hx, hb, hr, hml, hown, hts, hlocks, hK, hnm⟩ := C
  have hP : va_P D vwCl [((xa 0), .inr (9, [.ref (xa 1), .ref (xa 2), .ref (xa 3), .ref (xa 4), .ref (xa 5), .ref (xa 6), .ref (xa 7), .ref (xa 8), .ref (xa 9), .int 0, .ref (xa 11), .null, .int 0, .int (-1)])), ((xa 11), .inr (2, [.int 0, .int 0, .int 0, .int 0, .int 0, .int 0, .int 0, .int 0, .int 1, .int 10, .int 0, .int 0, .int 0, .int 0, .ref (xa 20), .ref (xa 21), .ref (xa 22), .ref (xa 23), .ref (xa 24), .ref (xa 25), .ref (xa 26)]))] s.heap := hP
  have hl : lv_has ls 3 [(0, .ref (xa 0)), (1, .int n0), (2, .int n1)] := hl
  refine lv_aload_n hx hb dX9_set_0 rfl (lv_at hl 0 rfl) ?_
  refine va_get (D := D) (ci := 9) (v := .ref (xa 11)) (C := RX9) (T := TX9) (N := 14) hx hb hts lay_X9 hown hK.1 hP 0 rfl rfl 10 (by decide) (hts _ fl_X9_67) (fun _ h9 => h9) rfl dX9_set_1 ?_
  refine lv_iload_n hx hb dX9_set_4 rfl (lv_at hl 1 rfl) ?_
  refine pu_calli (runV (As := [.int n0]) (rest := []) ⟨hx, hb, hml, hown, hts⟩ (f_hasDay l D cy xa n0 ) sV_X9_122 hK (va_recv hK.1 hP (ci := 2) (q0 := 1) rfl rfl) (hP.sub (ws' := [((xa 11), .inr (2, [.int 0, .int 0, .int 0, .int 0, .int 0, .int 0, .int 0, .int 0, .int 1, .int 10, .int 0, .int 0, .int 0, .int 0, .ref (xa 20), .ref (xa 21), .ref (xa 22), .ref (xa 23), .ref (xa 24), .ref (xa 25), .ref (xa 26)]))]) [1] rfl) ⟨Nat.le_of_ble_eq_true rfl, Nat.le_of_ble_eq_true rfl⟩ rfl hl.1 rfl (Nat.le_of_ble_eq_true rfl) dX9_set_5 ⟨Nat.le_of_ble_eq_true rfl, Nat.le_of_ble_eq_true rfl⟩) (fun r_1 hr_1 => ?_)
  have er_1 := hr_1
  subst er_1
  refine W.eq (g2 := F0 m 8 ls [.int 0]) rfl ?_
  refine lv_if_eq (tgt := 22) hx hb dX9_set_8 (by decide) (fun _ => ?_) (fun c_2 => absurd (by decide) c_2)
  refine lv_ldc2 (v := (-2)) hx hb hown (hts _ kl_X9_106) dX9_set_22 ?_
  exact ret_l hx hb hr hlocks ⟨rfl, _, rfl, rfl⟩ (fun _ h => absurd h List.not_mem_nil) (Nat.le_refl _) (Nat.le_refl _) dX9_set_25
set_option maxHeartbeats 4000000 in
set_option maxRecDepth 100000 in
theorem f_X9_when (l : Launch) (D : va_G) (cy : Nat → ClassId) (xa : Nat → Nat) (n0 : Int32) (n1 : Int32) : MM l yX9_when cX9_when 6 (some .int) 1 0 0 D cy [.ref (xa 0), .int n0, .int n1] (fun H => va_P D vwCl [((xa 0), .inr (9, [.ref (xa 1), .ref (xa 2), .ref (xa 3), .ref (xa 4), .ref (xa 5), .ref (xa 6), .ref (xa 7), .ref (xa 8), .ref (xa 9), .int 0, .ref (xa 11), .null, .int 0, .int (-1)])), ((xa 11), .inr (2, [.int 0, .int 0, .int 0, .int 0, .int 0, .int 0, .int 0, .int 0, .int 1, .int 10, .int 0, .int 0, .int 0, .int 0, .ref (xa 20), .ref (xa 21), .ref (xa 22), .ref (xa 23), .ref (xa 24), .ref (xa 25), .ref (xa 26)]))] H) (PuI (fun r => r = (-2))) noF := by
  refine MM.of (by decide) (Nat.le_of_ble_eq_true rfl) ?_
  intro p e s m below meth c C hP ls hl
  obtain ⟨hx, hb, hr, hml, hown, hts, hlocks, hK, hnm⟩ := C
  have hP : va_P D vwCl [((xa 0), .inr (9, [.ref (xa 1), .ref (xa 2), .ref (xa 3), .ref (xa 4), .ref (xa 5), .ref (xa 6), .ref (xa 7), .ref (xa 8), .ref (xa 9), .int 0, .ref (xa 11), .null, .int 0, .int (-1)])), ((xa 11), .inr (2, [.int 0, .int 0, .int 0, .int 0, .int 0, .int 0, .int 0, .int 0, .int 1, .int 10, .int 0, .int 0, .int 0, .int 0, .ref (xa 20), .ref (xa 21), .ref (xa 22), .ref (xa 23), .ref (xa 24), .ref (xa 25), .ref (xa 26)]))] s.heap := hP
  have hl : lv_has ls 6 [(0, .ref (xa 0)), (1, .int n0), (2, .int n1)] := hl
  refine lv_aload_n hx hb dX9_when_0 rfl (lv_at hl 0 rfl) ?_
  refine va_get (D := D) (ci := 9) (v := .ref (xa 11)) (C := RX9) (T := TX9) (N := 14) hx hb hts lay_X9 hown hK.1 hP 0 rfl rfl 10 (by decide) (hts _ fl_X9_67) (fun _ h9 => h9) rfl dX9_when_1 ?_
  refine lv_iload_n hx hb dX9_when_4 rfl (lv_at hl 1 rfl) ?_
  refine pu_calli (runV (As := [.int n0]) (rest := []) ⟨hx, hb, hml, hown, hts⟩ (f_hasValley l D cy xa n0 ) sV_X9_99 hK (va_recv hK.1 hP (ci := 2) (q0 := 1) rfl rfl) (hP.sub (ws' := [((xa 11), .inr (2, [.int 0, .int 0, .int 0, .int 0, .int 0, .int 0, .int 0, .int 0, .int 1, .int 10, .int 0, .int 0, .int 0, .int 0, .ref (xa 20), .ref (xa 21), .ref (xa 22), .ref (xa 23), .ref (xa 24), .ref (xa 25), .ref (xa 26)]))]) [1] rfl) ⟨Nat.le_of_ble_eq_true rfl, Nat.le_of_ble_eq_true rfl⟩ rfl hl.1 rfl (Nat.le_of_ble_eq_true rfl) dX9_when_5 ⟨Nat.le_of_ble_eq_true rfl, Nat.le_of_ble_eq_true rfl⟩) (fun r_1 hr_1 => ?_)
  have er_1 := hr_1
  subst er_1
  refine W.eq (g2 := F0 m 8 ls [.int 0]) rfl ?_
  refine lv_if_eq (tgt := 23) hx hb dX9_when_8 (by decide) (fun _ => ?_) (fun c_2 => absurd (by decide) c_2)
  refine lv_bipush (v := (-2)) hx hb dX9_when_23 (by decide) ?_
  exact ret_i hx hb hr hlocks ⟨rfl, _, rfl, rfl⟩ (fun _ h => absurd h List.not_mem_nil) (Nat.le_refl _) (Nat.le_refl _) dX9_when_25
set_option maxHeartbeats 4000000 in
set_option maxRecDepth 100000 in
theorem f_X9_wants (l : Launch) (D : va_G) (cy : Nat → ClassId) (xa : Nat → Nat) (n0 : Int32) (n1 : Int32) (n2 : Int32) : MM l yX9_wants cX9_wants 4 (some .int) 2 0 0 D cy [.ref (xa 0), .int n0, .int n1, .int n2] (fun H => va_P D vwCl [((xa 0), .inr (9, [.ref (xa 1), .ref (xa 2), .ref (xa 3), .ref (xa 4), .ref (xa 5), .ref (xa 6), .ref (xa 7), .ref (xa 8), .ref (xa 9), .int 0, .ref (xa 11), .null, .int 0, .int (-1)])), ((xa 11), .inr (2, [.int 0, .int 0, .int 0, .int 0, .int 0, .int 0, .int 0, .int 0, .int 1, .int 10, .int 0, .int 0, .int 0, .int 0, .ref (xa 20), .ref (xa 21), .ref (xa 22), .ref (xa 23), .ref (xa 24), .ref (xa 25), .ref (xa 26)]))] H) (PuI (fun r => r = (-2))) noF := by
  refine MM.of (by decide) (Nat.le_of_ble_eq_true rfl) ?_
  intro p e s m below meth c C hP ls hl
  obtain ⟨hx, hb, hr, hml, hown, hts, hlocks, hK, hnm⟩ := C
  have hP : va_P D vwCl [((xa 0), .inr (9, [.ref (xa 1), .ref (xa 2), .ref (xa 3), .ref (xa 4), .ref (xa 5), .ref (xa 6), .ref (xa 7), .ref (xa 8), .ref (xa 9), .int 0, .ref (xa 11), .null, .int 0, .int (-1)])), ((xa 11), .inr (2, [.int 0, .int 0, .int 0, .int 0, .int 0, .int 0, .int 0, .int 0, .int 1, .int 10, .int 0, .int 0, .int 0, .int 0, .ref (xa 20), .ref (xa 21), .ref (xa 22), .ref (xa 23), .ref (xa 24), .ref (xa 25), .ref (xa 26)]))] s.heap := hP
  have hl : lv_has ls 4 [(0, .ref (xa 0)), (1, .int n0), (2, .int n1), (3, .int n2)] := hl
  refine lv_aload_n hx hb dX9_wants_0 rfl (lv_at hl 0 rfl) ?_
  refine va_get (D := D) (ci := 9) (v := .ref (xa 11)) (C := RX9) (T := TX9) (N := 14) hx hb hts lay_X9 hown hK.1 hP 0 rfl rfl 10 (by decide) (hts _ fl_X9_67) (fun _ h9 => h9) rfl dX9_wants_1 ?_
  refine lv_iload_n hx hb dX9_wants_4 rfl (lv_at hl 1 rfl) ?_
  refine lv_iload_n hx hb dX9_wants_5 rfl (lv_at hl 2 rfl) ?_
  refine pu_calli (runV (As := [.int n0, .int n1]) (rest := []) ⟨hx, hb, hml, hown, hts⟩ (f_hasStore l D cy xa n0 n1 ) sV_X9_160 hK (va_recv hK.1 hP (ci := 2) (q0 := 1) rfl rfl) (hP.sub (ws' := [((xa 11), .inr (2, [.int 0, .int 0, .int 0, .int 0, .int 0, .int 0, .int 0, .int 0, .int 1, .int 10, .int 0, .int 0, .int 0, .int 0, .ref (xa 20), .ref (xa 21), .ref (xa 22), .ref (xa 23), .ref (xa 24), .ref (xa 25), .ref (xa 26)]))]) [1] rfl) ⟨Nat.le_of_ble_eq_true rfl, Nat.le_of_ble_eq_true rfl⟩ rfl hl.1 rfl (Nat.le_of_ble_eq_true rfl) dX9_wants_6 ⟨Nat.le_of_ble_eq_true rfl, Nat.le_of_ble_eq_true rfl⟩) (fun r_1 hr_1 => ?_)
  have er_1 := hr_1
  subst er_1
  refine W.eq (g2 := F0 m 9 ls [.int 0]) rfl ?_
  refine lv_if_eq (tgt := 23) hx hb dX9_wants_9 (by decide) (fun _ => ?_) (fun c_2 => absurd (by decide) c_2)
  refine lv_bipush (v := (-2)) hx hb dX9_wants_23 (by decide) ?_
  exact ret_i hx hb hr hlocks ⟨rfl, _, rfl, rfl⟩ (fun _ h => absurd h List.not_mem_nil) (Nat.le_refl _) (Nat.le_refl _) dX9_wants_25
set_option maxHeartbeats 4000000 in
set_option maxRecDepth 100000 in
theorem f_X9_cost (l : Launch) (D : va_G) (cy : Nat → ClassId) (xa : Nat → Nat) (n0 : Int32) (n1 : Int32) (n2 : Int32) : MM l yX9_cost cX9_cost 4 (some .long) 2 0 0 D cy [.ref (xa 0), .int n0, .int n1, .int n2] (fun H => va_P D vwCl [((xa 0), .inr (9, [.ref (xa 1), .ref (xa 2), .ref (xa 3), .ref (xa 4), .ref (xa 5), .ref (xa 6), .ref (xa 7), .ref (xa 8), .ref (xa 9), .int 0, .ref (xa 11), .null, .int 0, .int (-1)])), ((xa 11), .inr (2, [.int 0, .int 0, .int 0, .int 0, .int 0, .int 0, .int 0, .int 0, .int 1, .int 10, .int 0, .int 0, .int 0, .int 0, .ref (xa 20), .ref (xa 21), .ref (xa 22), .ref (xa 23), .ref (xa 24), .ref (xa 25), .ref (xa 26)]))] H) (PuL (fun r => r = (-2))) noF := by
  refine MM.of (by decide) (Nat.le_of_ble_eq_true rfl) ?_
  intro p e s m below meth c C hP ls hl
  obtain ⟨hx, hb, hr, hml, hown, hts, hlocks, hK, hnm⟩ := C
  have hP : va_P D vwCl [((xa 0), .inr (9, [.ref (xa 1), .ref (xa 2), .ref (xa 3), .ref (xa 4), .ref (xa 5), .ref (xa 6), .ref (xa 7), .ref (xa 8), .ref (xa 9), .int 0, .ref (xa 11), .null, .int 0, .int (-1)])), ((xa 11), .inr (2, [.int 0, .int 0, .int 0, .int 0, .int 0, .int 0, .int 0, .int 0, .int 1, .int 10, .int 0, .int 0, .int 0, .int 0, .ref (xa 20), .ref (xa 21), .ref (xa 22), .ref (xa 23), .ref (xa 24), .ref (xa 25), .ref (xa 26)]))] s.heap := hP
  have hl : lv_has ls 4 [(0, .ref (xa 0)), (1, .int n0), (2, .int n1), (3, .int n2)] := hl
  refine lv_aload_n hx hb dX9_cost_0 rfl (lv_at hl 0 rfl) ?_
  refine va_get (D := D) (ci := 9) (v := .ref (xa 11)) (C := RX9) (T := TX9) (N := 14) hx hb hts lay_X9 hown hK.1 hP 0 rfl rfl 10 (by decide) (hts _ fl_X9_67) (fun _ h9 => h9) rfl dX9_cost_1 ?_
  refine lv_iload_n hx hb dX9_cost_4 rfl (lv_at hl 1 rfl) ?_
  refine lv_iload_n hx hb dX9_cost_5 rfl (lv_at hl 2 rfl) ?_
  refine pu_calli (runV (As := [.int n0, .int n1]) (rest := []) ⟨hx, hb, hml, hown, hts⟩ (f_hasStore l D cy xa n0 n1 ) sV_X9_160 hK (va_recv hK.1 hP (ci := 2) (q0 := 1) rfl rfl) (hP.sub (ws' := [((xa 11), .inr (2, [.int 0, .int 0, .int 0, .int 0, .int 0, .int 0, .int 0, .int 0, .int 1, .int 10, .int 0, .int 0, .int 0, .int 0, .ref (xa 20), .ref (xa 21), .ref (xa 22), .ref (xa 23), .ref (xa 24), .ref (xa 25), .ref (xa 26)]))]) [1] rfl) ⟨Nat.le_of_ble_eq_true rfl, Nat.le_of_ble_eq_true rfl⟩ rfl hl.1 rfl (Nat.le_of_ble_eq_true rfl) dX9_cost_6 ⟨Nat.le_of_ble_eq_true rfl, Nat.le_of_ble_eq_true rfl⟩) (fun r_1 hr_1 => ?_)
  have er_1 := hr_1
  subst er_1
  refine W.eq (g2 := F0 m 9 ls [.int 0]) rfl ?_
  refine lv_if_eq (tgt := 19) hx hb dX9_cost_9 (by decide) (fun _ => ?_) (fun c_2 => absurd (by decide) c_2)
  refine lv_ldc2 (v := (-2)) hx hb hown (hts _ kl_X9_106) dX9_cost_19 ?_
  exact ret_l hx hb hr hlocks ⟨rfl, _, rfl, rfl⟩ (fun _ h => absurd h List.not_mem_nil) (Nat.le_refl _) (Nat.le_refl _) dX9_cost_22
set_option maxHeartbeats 4000000 in
set_option maxRecDepth 100000 in
theorem f_X9_worth (l : Launch) (D : va_G) (cy : Nat → ClassId) (xa : Nat → Nat) (n0 : Int32) (n1 : Int32) (n2 : Int32) : MM l yX9_worth cX9_worth 4 (some .long) 2 0 0 D cy [.ref (xa 0), .int n0, .int n1, .int n2] (fun H => va_P D vwCl [((xa 0), .inr (9, [.ref (xa 1), .ref (xa 2), .ref (xa 3), .ref (xa 4), .ref (xa 5), .ref (xa 6), .ref (xa 7), .ref (xa 8), .ref (xa 9), .int 0, .ref (xa 11), .null, .int 0, .int (-1)])), ((xa 11), .inr (2, [.int 0, .int 0, .int 0, .int 0, .int 0, .int 0, .int 0, .int 0, .int 1, .int 10, .int 0, .int 0, .int 0, .int 0, .ref (xa 20), .ref (xa 21), .ref (xa 22), .ref (xa 23), .ref (xa 24), .ref (xa 25), .ref (xa 26)]))] H) (PuL (fun r => r = (-1000000000000))) noF := by
  refine MM.of (by decide) (Nat.le_of_ble_eq_true rfl) ?_
  intro p e s m below meth c C hP ls hl
  obtain ⟨hx, hb, hr, hml, hown, hts, hlocks, hK, hnm⟩ := C
  have hP : va_P D vwCl [((xa 0), .inr (9, [.ref (xa 1), .ref (xa 2), .ref (xa 3), .ref (xa 4), .ref (xa 5), .ref (xa 6), .ref (xa 7), .ref (xa 8), .ref (xa 9), .int 0, .ref (xa 11), .null, .int 0, .int (-1)])), ((xa 11), .inr (2, [.int 0, .int 0, .int 0, .int 0, .int 0, .int 0, .int 0, .int 0, .int 1, .int 10, .int 0, .int 0, .int 0, .int 0, .ref (xa 20), .ref (xa 21), .ref (xa 22), .ref (xa 23), .ref (xa 24), .ref (xa 25), .ref (xa 26)]))] s.heap := hP
  have hl : lv_has ls 4 [(0, .ref (xa 0)), (1, .int n0), (2, .int n1), (3, .int n2)] := hl
  refine lv_aload_n hx hb dX9_worth_0 rfl (lv_at hl 0 rfl) ?_
  refine va_get (D := D) (ci := 9) (v := .ref (xa 11)) (C := RX9) (T := TX9) (N := 14) hx hb hts lay_X9 hown hK.1 hP 0 rfl rfl 10 (by decide) (hts _ fl_X9_67) (fun _ h9 => h9) rfl dX9_worth_1 ?_
  refine lv_iload_n hx hb dX9_worth_4 rfl (lv_at hl 1 rfl) ?_
  refine lv_iload_n hx hb dX9_worth_5 rfl (lv_at hl 2 rfl) ?_
  refine pu_calli (runV (As := [.int n0, .int n1]) (rest := []) ⟨hx, hb, hml, hown, hts⟩ (f_hasStore l D cy xa n0 n1 ) sV_X9_160 hK (va_recv hK.1 hP (ci := 2) (q0 := 1) rfl rfl) (hP.sub (ws' := [((xa 11), .inr (2, [.int 0, .int 0, .int 0, .int 0, .int 0, .int 0, .int 0, .int 0, .int 1, .int 10, .int 0, .int 0, .int 0, .int 0, .ref (xa 20), .ref (xa 21), .ref (xa 22), .ref (xa 23), .ref (xa 24), .ref (xa 25), .ref (xa 26)]))]) [1] rfl) ⟨Nat.le_of_ble_eq_true rfl, Nat.le_of_ble_eq_true rfl⟩ rfl hl.1 rfl (Nat.le_of_ble_eq_true rfl) dX9_worth_6 ⟨Nat.le_of_ble_eq_true rfl, Nat.le_of_ble_eq_true rfl⟩) (fun r_1 hr_1 => ?_)
  have er_1 := hr_1
  subst er_1
  refine W.eq (g2 := F0 m 9 ls [.int 0]) rfl ?_
  refine lv_if_eq (tgt := 23) hx hb dX9_worth_9 (by decide) (fun _ => ?_) (fun c_2 => absurd (by decide) c_2)
  refine lv_ldc2 (v := (-1000000000000)) hx hb hown (hts _ kl_X9_176) dX9_worth_23 ?_
  exact ret_l hx hb hr hlocks ⟨rfl, _, rfl, rfl⟩ (fun _ h => absurd h List.not_mem_nil) (Nat.le_refl _) (Nat.le_refl _) dX9_worth_26
set_option maxHeartbeats 4000000 in
set_option maxRecDepth 100000 in
theorem f_X9_best (l : Launch) (D : va_G) (cy : Nat → ClassId) (xa : Nat → Nat) (n0 : Int32) (n1 : Int32) : MM l yX9_best cX9_best 3 (some .int) 2 0 0 D cy [.ref (xa 0), .int n0, .int n1] (fun H => va_P D vwCl [((xa 0), .inr (9, [.ref (xa 1), .ref (xa 2), .ref (xa 3), .ref (xa 4), .ref (xa 5), .ref (xa 6), .ref (xa 7), .ref (xa 8), .ref (xa 9), .int 0, .ref (xa 11), .null, .int 0, .int (-1)])), ((xa 11), .inr (2, [.int 0, .int 0, .int 0, .int 0, .int 0, .int 0, .int 0, .int 0, .int 1, .int 10, .int 0, .int 0, .int 0, .int 0, .ref (xa 20), .ref (xa 21), .ref (xa 22), .ref (xa 23), .ref (xa 24), .ref (xa 25), .ref (xa 26)]))] H) (PuI (fun r => r = (-2))) noF := by
  refine MM.of (by decide) (Nat.le_of_ble_eq_true rfl) ?_
  intro p e s m below meth c C hP ls hl
  obtain ⟨hx, hb, hr, hml, hown, hts, hlocks, hK, hnm⟩ := C
  have hP : va_P D vwCl [((xa 0), .inr (9, [.ref (xa 1), .ref (xa 2), .ref (xa 3), .ref (xa 4), .ref (xa 5), .ref (xa 6), .ref (xa 7), .ref (xa 8), .ref (xa 9), .int 0, .ref (xa 11), .null, .int 0, .int (-1)])), ((xa 11), .inr (2, [.int 0, .int 0, .int 0, .int 0, .int 0, .int 0, .int 0, .int 0, .int 1, .int 10, .int 0, .int 0, .int 0, .int 0, .ref (xa 20), .ref (xa 21), .ref (xa 22), .ref (xa 23), .ref (xa 24), .ref (xa 25), .ref (xa 26)]))] s.heap := hP
  have hl : lv_has ls 3 [(0, .ref (xa 0)), (1, .int n0), (2, .int n1)] := hl
  refine lv_aload_n hx hb dX9_best_0 rfl (lv_at hl 0 rfl) ?_
  refine va_get (D := D) (ci := 9) (v := .ref (xa 11)) (C := RX9) (T := TX9) (N := 14) hx hb hts lay_X9 hown hK.1 hP 0 rfl rfl 10 (by decide) (hts _ fl_X9_67) (fun _ h9 => h9) rfl dX9_best_1 ?_
  refine lv_iload_n hx hb dX9_best_4 rfl (lv_at hl 1 rfl) ?_
  refine lv_iload_n hx hb dX9_best_5 rfl (lv_at hl 2 rfl) ?_
  refine pu_calli (runV (As := [.int n0, .int n1]) (rest := []) ⟨hx, hb, hml, hown, hts⟩ (f_hasStore l D cy xa n0 n1 ) sV_X9_160 hK (va_recv hK.1 hP (ci := 2) (q0 := 1) rfl rfl) (hP.sub (ws' := [((xa 11), .inr (2, [.int 0, .int 0, .int 0, .int 0, .int 0, .int 0, .int 0, .int 0, .int 1, .int 10, .int 0, .int 0, .int 0, .int 0, .ref (xa 20), .ref (xa 21), .ref (xa 22), .ref (xa 23), .ref (xa 24), .ref (xa 25), .ref (xa 26)]))]) [1] rfl) ⟨Nat.le_of_ble_eq_true rfl, Nat.le_of_ble_eq_true rfl⟩ rfl hl.1 rfl (Nat.le_of_ble_eq_true rfl) dX9_best_6 ⟨Nat.le_of_ble_eq_true rfl, Nat.le_of_ble_eq_true rfl⟩) (fun r_1 hr_1 => ?_)
  have er_1 := hr_1
  subst er_1
  refine W.eq (g2 := F0 m 9 ls [.int 0]) rfl ?_
  refine lv_if_ne (tgt := 15) hx hb dX9_best_9 (by decide) (fun c_2 => absurd rfl c_2) (fun _ => ?_)
  refine lv_bipush (v := (-2)) hx hb dX9_best_12 (by decide) ?_
  exact ret_i hx hb hr hlocks ⟨rfl, _, rfl, rfl⟩ (fun _ h => absurd h List.not_mem_nil) (Nat.le_refl _) (Nat.le_refl _) dX9_best_14
set_option maxHeartbeats 4000000 in
set_option maxRecDepth 100000 in
theorem f_X9_sure (l : Launch) (D : va_G) (cy : Nat → ClassId) (xa : Nat → Nat) (n0 : Int32) (n1 : Int32) (n2 : Int32) : MM l yX9_sure cX9_sure 4 (some .long) 2 0 0 D cy [.ref (xa 0), .int n0, .int n1, .int n2] (fun H => va_P D vwCl [((xa 0), .inr (9, [.ref (xa 1), .ref (xa 2), .ref (xa 3), .ref (xa 4), .ref (xa 5), .ref (xa 6), .ref (xa 7), .ref (xa 8), .ref (xa 9), .int 0, .ref (xa 11), .null, .int 0, .int (-1)])), ((xa 11), .inr (2, [.int 0, .int 0, .int 0, .int 0, .int 0, .int 0, .int 0, .int 0, .int 1, .int 10, .int 0, .int 0, .int 0, .int 0, .ref (xa 20), .ref (xa 21), .ref (xa 22), .ref (xa 23), .ref (xa 24), .ref (xa 25), .ref (xa 26)]))] H) (PuL (fun r => r = (-2))) noF := by
  refine MM.of (by decide) (Nat.le_of_ble_eq_true rfl) ?_
  intro p e s m below meth c C hP ls hl
  obtain ⟨hx, hb, hr, hml, hown, hts, hlocks, hK, hnm⟩ := C
  have hP : va_P D vwCl [((xa 0), .inr (9, [.ref (xa 1), .ref (xa 2), .ref (xa 3), .ref (xa 4), .ref (xa 5), .ref (xa 6), .ref (xa 7), .ref (xa 8), .ref (xa 9), .int 0, .ref (xa 11), .null, .int 0, .int (-1)])), ((xa 11), .inr (2, [.int 0, .int 0, .int 0, .int 0, .int 0, .int 0, .int 0, .int 0, .int 1, .int 10, .int 0, .int 0, .int 0, .int 0, .ref (xa 20), .ref (xa 21), .ref (xa 22), .ref (xa 23), .ref (xa 24), .ref (xa 25), .ref (xa 26)]))] s.heap := hP
  have hl : lv_has ls 4 [(0, .ref (xa 0)), (1, .int n0), (2, .int n1), (3, .int n2)] := hl
  refine lv_aload_n hx hb dX9_sure_0 rfl (lv_at hl 0 rfl) ?_
  refine va_get (D := D) (ci := 9) (v := .ref (xa 11)) (C := RX9) (T := TX9) (N := 14) hx hb hts lay_X9 hown hK.1 hP 0 rfl rfl 10 (by decide) (hts _ fl_X9_67) (fun _ h9 => h9) rfl dX9_sure_1 ?_
  refine lv_iload_n hx hb dX9_sure_4 rfl (lv_at hl 1 rfl) ?_
  refine lv_iload_n hx hb dX9_sure_5 rfl (lv_at hl 2 rfl) ?_
  refine pu_calli (runV (As := [.int n0, .int n1]) (rest := []) ⟨hx, hb, hml, hown, hts⟩ (f_hasStore l D cy xa n0 n1 ) sV_X9_160 hK (va_recv hK.1 hP (ci := 2) (q0 := 1) rfl rfl) (hP.sub (ws' := [((xa 11), .inr (2, [.int 0, .int 0, .int 0, .int 0, .int 0, .int 0, .int 0, .int 0, .int 1, .int 10, .int 0, .int 0, .int 0, .int 0, .ref (xa 20), .ref (xa 21), .ref (xa 22), .ref (xa 23), .ref (xa 24), .ref (xa 25), .ref (xa 26)]))]) [1] rfl) ⟨Nat.le_of_ble_eq_true rfl, Nat.le_of_ble_eq_true rfl⟩ rfl hl.1 rfl (Nat.le_of_ble_eq_true rfl) dX9_sure_6 ⟨Nat.le_of_ble_eq_true rfl, Nat.le_of_ble_eq_true rfl⟩) (fun r_1 hr_1 => ?_)
  have er_1 := hr_1
  subst er_1
  refine W.eq (g2 := F0 m 9 ls [.int 0]) rfl ?_
  refine lv_if_eq (tgt := 19) hx hb dX9_sure_9 (by decide) (fun _ => ?_) (fun c_2 => absurd (by decide) c_2)
  refine lv_ldc2 (v := (-2)) hx hb hown (hts _ kl_X9_106) dX9_sure_19 ?_
  exact ret_l hx hb hr hlocks ⟨rfl, _, rfl, rfl⟩ (fun _ h => absurd h List.not_mem_nil) (Nat.le_refl _) (Nat.le_refl _) dX9_sure_22
set_option maxHeartbeats 4000000 in
set_option maxRecDepth 100000 in
theorem f_X9_need (l : Launch) (D : va_G) (cy : Nat → ClassId) (xa : Nat → Nat) (n0 : Int32) (n1 : Int32) (n2 : Int32) : MM l yX9_need cX9_need 7 (some .int) 2 0 0 D cy [.ref (xa 0), .int n0, .int n1, .int n2] (fun H => va_P D vwCl [((xa 0), .inr (9, [.ref (xa 1), .ref (xa 2), .ref (xa 3), .ref (xa 4), .ref (xa 5), .ref (xa 6), .ref (xa 7), .ref (xa 8), .ref (xa 9), .int 0, .ref (xa 11), .null, .int 0, .int (-1)])), ((xa 11), .inr (2, [.int 0, .int 0, .int 0, .int 0, .int 0, .int 0, .int 0, .int 0, .int 1, .int 10, .int 0, .int 0, .int 0, .int 0, .ref (xa 20), .ref (xa 21), .ref (xa 22), .ref (xa 23), .ref (xa 24), .ref (xa 25), .ref (xa 26)]))] H) (PuI (fun r => r = (-2))) noF := by
  refine MM.of (by decide) (Nat.le_of_ble_eq_true rfl) ?_
  intro p e s m below meth c C hP ls hl
  obtain ⟨hx, hb, hr, hml, hown, hts, hlocks, hK, hnm⟩ := C
  have hP : va_P D vwCl [((xa 0), .inr (9, [.ref (xa 1), .ref (xa 2), .ref (xa 3), .ref (xa 4), .ref (xa 5), .ref (xa 6), .ref (xa 7), .ref (xa 8), .ref (xa 9), .int 0, .ref (xa 11), .null, .int 0, .int (-1)])), ((xa 11), .inr (2, [.int 0, .int 0, .int 0, .int 0, .int 0, .int 0, .int 0, .int 0, .int 1, .int 10, .int 0, .int 0, .int 0, .int 0, .ref (xa 20), .ref (xa 21), .ref (xa 22), .ref (xa 23), .ref (xa 24), .ref (xa 25), .ref (xa 26)]))] s.heap := hP
  have hl : lv_has ls 7 [(0, .ref (xa 0)), (1, .int n0), (2, .int n1), (3, .int n2)] := hl
  refine lv_aload_n hx hb dX9_need_0 rfl (lv_at hl 0 rfl) ?_
  refine va_get (D := D) (ci := 9) (v := .ref (xa 11)) (C := RX9) (T := TX9) (N := 14) hx hb hts lay_X9 hown hK.1 hP 0 rfl rfl 10 (by decide) (hts _ fl_X9_67) (fun _ h9 => h9) rfl dX9_need_1 ?_
  refine lv_iload_n hx hb dX9_need_4 rfl (lv_at hl 1 rfl) ?_
  refine lv_iload_n hx hb dX9_need_5 rfl (lv_at hl 2 rfl) ?_
  refine pu_calli (runV (As := [.int n0, .int n1]) (rest := []) ⟨hx, hb, hml, hown, hts⟩ (f_hasStore l D cy xa n0 n1 ) sV_X9_160 hK (va_recv hK.1 hP (ci := 2) (q0 := 1) rfl rfl) (hP.sub (ws' := [((xa 11), .inr (2, [.int 0, .int 0, .int 0, .int 0, .int 0, .int 0, .int 0, .int 0, .int 1, .int 10, .int 0, .int 0, .int 0, .int 0, .ref (xa 20), .ref (xa 21), .ref (xa 22), .ref (xa 23), .ref (xa 24), .ref (xa 25), .ref (xa 26)]))]) [1] rfl) ⟨Nat.le_of_ble_eq_true rfl, Nat.le_of_ble_eq_true rfl⟩ rfl hl.1 rfl (Nat.le_of_ble_eq_true rfl) dX9_need_6 ⟨Nat.le_of_ble_eq_true rfl, Nat.le_of_ble_eq_true rfl⟩) (fun r_1 hr_1 => ?_)
  have er_1 := hr_1
  subst er_1
  refine W.eq (g2 := F0 m 9 ls [.int 0]) rfl ?_
  refine lv_if_eq (tgt := 23) hx hb dX9_need_9 (by decide) (fun _ => ?_) (fun c_2 => absurd (by decide) c_2)
  refine lv_bipush (v := (-2)) hx hb dX9_need_23 (by decide) ?_
  exact ret_i hx hb hr hlocks ⟨rfl, _, rfl, rfl⟩ (fun _ h => absurd h List.not_mem_nil) (Nat.le_refl _) (Nat.le_refl _) dX9_need_25
set_option maxHeartbeats 4000000 in
set_option maxRecDepth 100000 in
theorem f_X9_packed (l : Launch) (D : va_G) (cy : Nat → ClassId) (xa : Nat → Nat) (n0 : Int32) : MM l yX9_packed cX9_packed 2 (some .long) 1 0 0 D cy [.ref (xa 0), .int n0] (fun H => va_P D vwCl [((xa 0), .inr (9, [.ref (xa 1), .ref (xa 2), .ref (xa 3), .ref (xa 4), .ref (xa 5), .ref (xa 6), .ref (xa 7), .ref (xa 8), .ref (xa 9), .int 0, .ref (xa 11), .null, .int 0, .int (-1)])), ((xa 11), .inr (2, [.int 0, .int 0, .int 0, .int 0, .int 0, .int 0, .int 0, .int 0, .int 1, .int 10, .int 0, .int 0, .int 0, .int 0, .ref (xa 20), .ref (xa 21), .ref (xa 22), .ref (xa 23), .ref (xa 24), .ref (xa 25), .ref (xa 26)]))] H) (PuL (fun r => r = (-2))) noF := by
  refine MM.of (by decide) (Nat.le_of_ble_eq_true rfl) ?_
  intro p e s m below meth c C hP ls hl
  obtain ⟨hx, hb, hr, hml, hown, hts, hlocks, hK, hnm⟩ := C
  have hP : va_P D vwCl [((xa 0), .inr (9, [.ref (xa 1), .ref (xa 2), .ref (xa 3), .ref (xa 4), .ref (xa 5), .ref (xa 6), .ref (xa 7), .ref (xa 8), .ref (xa 9), .int 0, .ref (xa 11), .null, .int 0, .int (-1)])), ((xa 11), .inr (2, [.int 0, .int 0, .int 0, .int 0, .int 0, .int 0, .int 0, .int 0, .int 1, .int 10, .int 0, .int 0, .int 0, .int 0, .ref (xa 20), .ref (xa 21), .ref (xa 22), .ref (xa 23), .ref (xa 24), .ref (xa 25), .ref (xa 26)]))] s.heap := hP
  have hl : lv_has ls 2 [(0, .ref (xa 0)), (1, .int n0)] := hl
  refine lv_aload_n hx hb dX9_packed_0 rfl (lv_at hl 0 rfl) ?_
  refine va_get (D := D) (ci := 9) (v := .ref (xa 11)) (C := RX9) (T := TX9) (N := 14) hx hb hts lay_X9 hown hK.1 hP 0 rfl rfl 10 (by decide) (hts _ fl_X9_67) (fun _ h9 => h9) rfl dX9_packed_1 ?_
  refine lv_iload_n hx hb dX9_packed_4 rfl (lv_at hl 1 rfl) ?_
  refine pu_calli (runV (As := [.int n0]) (rest := []) ⟨hx, hb, hml, hown, hts⟩ (f_hasValley l D cy xa n0 ) sV_X9_99 hK (va_recv hK.1 hP (ci := 2) (q0 := 1) rfl rfl) (hP.sub (ws' := [((xa 11), .inr (2, [.int 0, .int 0, .int 0, .int 0, .int 0, .int 0, .int 0, .int 0, .int 1, .int 10, .int 0, .int 0, .int 0, .int 0, .ref (xa 20), .ref (xa 21), .ref (xa 22), .ref (xa 23), .ref (xa 24), .ref (xa 25), .ref (xa 26)]))]) [1] rfl) ⟨Nat.le_of_ble_eq_true rfl, Nat.le_of_ble_eq_true rfl⟩ rfl hl.1 rfl (Nat.le_of_ble_eq_true rfl) dX9_packed_5 ⟨Nat.le_of_ble_eq_true rfl, Nat.le_of_ble_eq_true rfl⟩) (fun r_1 hr_1 => ?_)
  have er_1 := hr_1
  subst er_1
  refine W.eq (g2 := F0 m 8 ls [.int 0]) rfl ?_
  refine lv_if_ne (tgt := 15) hx hb dX9_packed_8 (by decide) (fun c_2 => absurd rfl c_2) (fun _ => ?_)
  refine lv_ldc2 (v := (-2)) hx hb hown (hts _ kl_X9_106) dX9_packed_11 ?_
  exact ret_l hx hb hr hlocks ⟨rfl, _, rfl, rfl⟩ (fun _ h => absurd h List.not_mem_nil) (Nat.le_refl _) (Nat.le_refl _) dX9_packed_14
set_option maxHeartbeats 4000000 in
set_option maxRecDepth 100000 in
theorem f_X9_pack (l : Launch) (D : va_G) (cy : Nat → ClassId) (xa : Nat → Nat) (n0 : Int32) (n1 : Int32) : MM l yX9_pack cX9_pack 3 (some .int) 2 0 0 D cy [.ref (xa 0), .int n0, .int n1] (fun H => va_P D vwCl [((xa 0), .inr (9, [.ref (xa 1), .ref (xa 2), .ref (xa 3), .ref (xa 4), .ref (xa 5), .ref (xa 6), .ref (xa 7), .ref (xa 8), .ref (xa 9), .int 0, .ref (xa 11), .null, .int 0, .int (-1)])), ((xa 11), .inr (2, [.int 0, .int 0, .int 0, .int 0, .int 0, .int 0, .int 0, .int 0, .int 1, .int 10, .int 0, .int 0, .int 0, .int 0, .ref (xa 20), .ref (xa 21), .ref (xa 22), .ref (xa 23), .ref (xa 24), .ref (xa 25), .ref (xa 26)]))] H) (PuI (fun r => r = (-2))) noF := by
  refine MM.of (by decide) (Nat.le_of_ble_eq_true rfl) ?_
  intro p e s m below meth c C hP ls hl
  obtain ⟨hx, hb, hr, hml, hown, hts, hlocks, hK, hnm⟩ := C
  have hP : va_P D vwCl [((xa 0), .inr (9, [.ref (xa 1), .ref (xa 2), .ref (xa 3), .ref (xa 4), .ref (xa 5), .ref (xa 6), .ref (xa 7), .ref (xa 8), .ref (xa 9), .int 0, .ref (xa 11), .null, .int 0, .int (-1)])), ((xa 11), .inr (2, [.int 0, .int 0, .int 0, .int 0, .int 0, .int 0, .int 0, .int 0, .int 1, .int 10, .int 0, .int 0, .int 0, .int 0, .ref (xa 20), .ref (xa 21), .ref (xa 22), .ref (xa 23), .ref (xa 24), .ref (xa 25), .ref (xa 26)]))] s.heap := hP
  have hl : lv_has ls 3 [(0, .ref (xa 0)), (1, .int n0), (2, .int n1)] := hl
  refine lv_aload_n hx hb dX9_pack_0 rfl (lv_at hl 0 rfl) ?_
  refine va_get (D := D) (ci := 9) (v := .ref (xa 11)) (C := RX9) (T := TX9) (N := 14) hx hb hts lay_X9 hown hK.1 hP 0 rfl rfl 10 (by decide) (hts _ fl_X9_67) (fun _ h9 => h9) rfl dX9_pack_1 ?_
  refine lv_iload_n hx hb dX9_pack_4 rfl (lv_at hl 1 rfl) ?_
  refine lv_iload_n hx hb dX9_pack_5 rfl (lv_at hl 2 rfl) ?_
  refine pu_calli (runV (As := [.int n0, .int n1]) (rest := []) ⟨hx, hb, hml, hown, hts⟩ (f_hasStore l D cy xa n0 n1 ) sV_X9_160 hK (va_recv hK.1 hP (ci := 2) (q0 := 1) rfl rfl) (hP.sub (ws' := [((xa 11), .inr (2, [.int 0, .int 0, .int 0, .int 0, .int 0, .int 0, .int 0, .int 0, .int 1, .int 10, .int 0, .int 0, .int 0, .int 0, .ref (xa 20), .ref (xa 21), .ref (xa 22), .ref (xa 23), .ref (xa 24), .ref (xa 25), .ref (xa 26)]))]) [1] rfl) ⟨Nat.le_of_ble_eq_true rfl, Nat.le_of_ble_eq_true rfl⟩ rfl hl.1 rfl (Nat.le_of_ble_eq_true rfl) dX9_pack_6 ⟨Nat.le_of_ble_eq_true rfl, Nat.le_of_ble_eq_true rfl⟩) (fun r_1 hr_1 => ?_)
  have er_1 := hr_1
  subst er_1
  refine W.eq (g2 := F0 m 9 ls [.int 0]) rfl ?_
  refine lv_if_ne (tgt := 15) hx hb dX9_pack_9 (by decide) (fun c_2 => absurd rfl c_2) (fun _ => ?_)
  refine lv_bipush (v := (-2)) hx hb dX9_pack_12 (by decide) ?_
  exact ret_i hx hb hr hlocks ⟨rfl, _, rfl, rfl⟩ (fun _ h => absurd h List.not_mem_nil) (Nat.le_refl _) (Nat.le_refl _) dX9_pack_14
set_option maxHeartbeats 4000000 in
set_option maxRecDepth 100000 in
theorem f_X9_gap (l : Launch) (D : va_G) (cy : Nat → ClassId) (xa : Nat → Nat) (n0 : Int32) : MM l yX9_gap cX9_gap 7 (some .long) 1 0 0 D cy [.ref (xa 0), .int n0] (fun H => va_P D vwCl [((xa 0), .inr (9, [.ref (xa 1), .ref (xa 2), .ref (xa 3), .ref (xa 4), .ref (xa 5), .ref (xa 6), .ref (xa 7), .ref (xa 8), .ref (xa 9), .int 0, .ref (xa 11), .null, .int 0, .int (-1)])), ((xa 11), .inr (2, [.int 0, .int 0, .int 0, .int 0, .int 0, .int 0, .int 0, .int 0, .int 1, .int 10, .int 0, .int 0, .int 0, .int 0, .ref (xa 20), .ref (xa 21), .ref (xa 22), .ref (xa 23), .ref (xa 24), .ref (xa 25), .ref (xa 26)]))] H) (PuL (fun r => r = (-2))) noF := by
  refine MM.of (by decide) (Nat.le_of_ble_eq_true rfl) ?_
  intro p e s m below meth c C hP ls hl
  obtain ⟨hx, hb, hr, hml, hown, hts, hlocks, hK, hnm⟩ := C
  have hP : va_P D vwCl [((xa 0), .inr (9, [.ref (xa 1), .ref (xa 2), .ref (xa 3), .ref (xa 4), .ref (xa 5), .ref (xa 6), .ref (xa 7), .ref (xa 8), .ref (xa 9), .int 0, .ref (xa 11), .null, .int 0, .int (-1)])), ((xa 11), .inr (2, [.int 0, .int 0, .int 0, .int 0, .int 0, .int 0, .int 0, .int 0, .int 1, .int 10, .int 0, .int 0, .int 0, .int 0, .ref (xa 20), .ref (xa 21), .ref (xa 22), .ref (xa 23), .ref (xa 24), .ref (xa 25), .ref (xa 26)]))] s.heap := hP
  have hl : lv_has ls 7 [(0, .ref (xa 0)), (1, .int n0)] := hl
  refine lv_aload_n hx hb dX9_gap_0 rfl (lv_at hl 0 rfl) ?_
  refine va_get (D := D) (ci := 9) (v := .ref (xa 11)) (C := RX9) (T := TX9) (N := 14) hx hb hts lay_X9 hown hK.1 hP 0 rfl rfl 10 (by decide) (hts _ fl_X9_67) (fun _ h9 => h9) rfl dX9_gap_1 ?_
  refine lv_iload_n hx hb dX9_gap_4 rfl (lv_at hl 1 rfl) ?_
  refine pu_calli (runV (As := [.int n0]) (rest := []) ⟨hx, hb, hml, hown, hts⟩ (f_hasValley l D cy xa n0 ) sV_X9_99 hK (va_recv hK.1 hP (ci := 2) (q0 := 1) rfl rfl) (hP.sub (ws' := [((xa 11), .inr (2, [.int 0, .int 0, .int 0, .int 0, .int 0, .int 0, .int 0, .int 0, .int 1, .int 10, .int 0, .int 0, .int 0, .int 0, .ref (xa 20), .ref (xa 21), .ref (xa 22), .ref (xa 23), .ref (xa 24), .ref (xa 25), .ref (xa 26)]))]) [1] rfl) ⟨Nat.le_of_ble_eq_true rfl, Nat.le_of_ble_eq_true rfl⟩ rfl hl.1 rfl (Nat.le_of_ble_eq_true rfl) dX9_gap_5 ⟨Nat.le_of_ble_eq_true rfl, Nat.le_of_ble_eq_true rfl⟩) (fun r_1 hr_1 => ?_)
  have er_1 := hr_1
  subst er_1
  refine W.eq (g2 := F0 m 8 ls [.int 0]) rfl ?_
  refine lv_if_ne (tgt := 15) hx hb dX9_gap_8 (by decide) (fun c_2 => absurd rfl c_2) (fun _ => ?_)
  refine lv_ldc2 (v := (-2)) hx hb hown (hts _ kl_X9_106) dX9_gap_11 ?_
  exact ret_l hx hb hr hlocks ⟨rfl, _, rfl, rfl⟩ (fun _ h => absurd h List.not_mem_nil) (Nat.le_refl _) (Nat.le_refl _) dX9_gap_14
set_option maxHeartbeats 4000000 in
set_option maxRecDepth 100000 in
theorem f_X9_late (l : Launch) (D : va_G) (cy : Nat → ClassId) (xa : Nat → Nat) (n0 : Int32) (n1 : Int32) : MM l yX9_late cX9_late 3 (some .long) 2 0 0 D cy [.ref (xa 0), .int n0, .int n1] (fun H => va_P D vwCl [((xa 0), .inr (9, [.ref (xa 1), .ref (xa 2), .ref (xa 3), .ref (xa 4), .ref (xa 5), .ref (xa 6), .ref (xa 7), .ref (xa 8), .ref (xa 9), .int 0, .ref (xa 11), .null, .int 0, .int (-1)])), ((xa 11), .inr (2, [.int 0, .int 0, .int 0, .int 0, .int 0, .int 0, .int 0, .int 0, .int 1, .int 10, .int 0, .int 0, .int 0, .int 0, .ref (xa 20), .ref (xa 21), .ref (xa 22), .ref (xa 23), .ref (xa 24), .ref (xa 25), .ref (xa 26)]))] H) (PuL (fun r => r = (-2))) noF := by
  refine MM.of (by decide) (Nat.le_of_ble_eq_true rfl) ?_
  intro p e s m below meth c C hP ls hl
  obtain ⟨hx, hb, hr, hml, hown, hts, hlocks, hK, hnm⟩ := C
  have hP : va_P D vwCl [((xa 0), .inr (9, [.ref (xa 1), .ref (xa 2), .ref (xa 3), .ref (xa 4), .ref (xa 5), .ref (xa 6), .ref (xa 7), .ref (xa 8), .ref (xa 9), .int 0, .ref (xa 11), .null, .int 0, .int (-1)])), ((xa 11), .inr (2, [.int 0, .int 0, .int 0, .int 0, .int 0, .int 0, .int 0, .int 0, .int 1, .int 10, .int 0, .int 0, .int 0, .int 0, .ref (xa 20), .ref (xa 21), .ref (xa 22), .ref (xa 23), .ref (xa 24), .ref (xa 25), .ref (xa 26)]))] s.heap := hP
  have hl : lv_has ls 3 [(0, .ref (xa 0)), (1, .int n0), (2, .int n1)] := hl
  refine lv_aload_n hx hb dX9_late_0 rfl (lv_at hl 0 rfl) ?_
  refine va_get (D := D) (ci := 9) (v := .ref (xa 11)) (C := RX9) (T := TX9) (N := 14) hx hb hts lay_X9 hown hK.1 hP 0 rfl rfl 10 (by decide) (hts _ fl_X9_67) (fun _ h9 => h9) rfl dX9_late_1 ?_
  refine lv_iload_n hx hb dX9_late_4 rfl (lv_at hl 1 rfl) ?_
  refine lv_iload_n hx hb dX9_late_5 rfl (lv_at hl 2 rfl) ?_
  refine pu_calli (runV (As := [.int n0, .int n1]) (rest := []) ⟨hx, hb, hml, hown, hts⟩ (f_hasStore l D cy xa n0 n1 ) sV_X9_160 hK (va_recv hK.1 hP (ci := 2) (q0 := 1) rfl rfl) (hP.sub (ws' := [((xa 11), .inr (2, [.int 0, .int 0, .int 0, .int 0, .int 0, .int 0, .int 0, .int 0, .int 1, .int 10, .int 0, .int 0, .int 0, .int 0, .ref (xa 20), .ref (xa 21), .ref (xa 22), .ref (xa 23), .ref (xa 24), .ref (xa 25), .ref (xa 26)]))]) [1] rfl) ⟨Nat.le_of_ble_eq_true rfl, Nat.le_of_ble_eq_true rfl⟩ rfl hl.1 rfl (Nat.le_of_ble_eq_true rfl) dX9_late_6 ⟨Nat.le_of_ble_eq_true rfl, Nat.le_of_ble_eq_true rfl⟩) (fun r_1 hr_1 => ?_)
  have er_1 := hr_1
  subst er_1
  refine W.eq (g2 := F0 m 9 ls [.int 0]) rfl ?_
  refine lv_if_ne (tgt := 16) hx hb dX9_late_9 (by decide) (fun c_2 => absurd rfl c_2) (fun _ => ?_)
  refine lv_ldc2 (v := (-2)) hx hb hown (hts _ kl_X9_106) dX9_late_12 ?_
  exact ret_l hx hb hr hlocks ⟨rfl, _, rfl, rfl⟩ (fun _ h => absurd h List.not_mem_nil) (Nat.le_refl _) (Nat.le_refl _) dX9_late_15
set_option maxHeartbeats 4000000 in
set_option maxRecDepth 100000 in
theorem f_X9_today (l : Launch) (D : va_G) (cy : Nat → ClassId) (xa : Nat → Nat) (n0 : Int32) (n1 : Int32) (n2 : Int32) (n3 : Int32) (n4 : Int32) : MM l yX9_today cX9_today 6 (some .int) 2 0 0 D cy [.ref (xa 0), .int n0, .int n1, .int n2, .int n3, .int n4] (fun H => va_P D vwCl [((xa 0), .inr (9, [.ref (xa 1), .ref (xa 2), .ref (xa 3), .ref (xa 4), .ref (xa 5), .ref (xa 6), .ref (xa 7), .ref (xa 8), .ref (xa 9), .int 0, .ref (xa 11), .null, .int 0, .int (-1)])), ((xa 11), .inr (2, [.int 0, .int 0, .int 0, .int 0, .int 0, .int 0, .int 0, .int 0, .int 1, .int 10, .int 0, .int 0, .int 0, .int 0, .ref (xa 20), .ref (xa 21), .ref (xa 22), .ref (xa 23), .ref (xa 24), .ref (xa 25), .ref (xa 26)]))] H) (PuI (fun r => r = (-2))) noF := by
  refine MM.of (by decide) (Nat.le_of_ble_eq_true rfl) ?_
  intro p e s m below meth c C hP ls hl
  obtain ⟨hx, hb, hr, hml, hown, hts, hlocks, hK, hnm⟩ := C
  have hP : va_P D vwCl [((xa 0), .inr (9, [.ref (xa 1), .ref (xa 2), .ref (xa 3), .ref (xa 4), .ref (xa 5), .ref (xa 6), .ref (xa 7), .ref (xa 8), .ref (xa 9), .int 0, .ref (xa 11), .null, .int 0, .int (-1)])), ((xa 11), .inr (2, [.int 0, .int 0, .int 0, .int 0, .int 0, .int 0, .int 0, .int 0, .int 1, .int 10, .int 0, .int 0, .int 0, .int 0, .ref (xa 20), .ref (xa 21), .ref (xa 22), .ref (xa 23), .ref (xa 24), .ref (xa 25), .ref (xa 26)]))] s.heap := hP
  have hl : lv_has ls 6 [(0, .ref (xa 0)), (1, .int n0), (2, .int n1), (3, .int n2), (4, .int n3), (5, .int n4)] := hl
  refine lv_aload_n hx hb dX9_today_0 rfl (lv_at hl 0 rfl) ?_
  refine va_get (D := D) (ci := 9) (v := .ref (xa 11)) (C := RX9) (T := TX9) (N := 14) hx hb hts lay_X9 hown hK.1 hP 0 rfl rfl 10 (by decide) (hts _ fl_X9_67) (fun _ h9 => h9) rfl dX9_today_1 ?_
  refine lv_iload_n hx hb dX9_today_4 rfl (lv_at hl 1 rfl) ?_
  refine lv_iload_n hx hb dX9_today_5 rfl (lv_at hl 2 rfl) ?_
  refine pu_calli (runV (As := [.int n0, .int n1]) (rest := []) ⟨hx, hb, hml, hown, hts⟩ (f_hasStore l D cy xa n0 n1 ) sV_X9_160 hK (va_recv hK.1 hP (ci := 2) (q0 := 1) rfl rfl) (hP.sub (ws' := [((xa 11), .inr (2, [.int 0, .int 0, .int 0, .int 0, .int 0, .int 0, .int 0, .int 0, .int 1, .int 10, .int 0, .int 0, .int 0, .int 0, .ref (xa 20), .ref (xa 21), .ref (xa 22), .ref (xa 23), .ref (xa 24), .ref (xa 25), .ref (xa 26)]))]) [1] rfl) ⟨Nat.le_of_ble_eq_true rfl, Nat.le_of_ble_eq_true rfl⟩ rfl hl.1 rfl (Nat.le_of_ble_eq_true rfl) dX9_today_6 ⟨Nat.le_of_ble_eq_true rfl, Nat.le_of_ble_eq_true rfl⟩) (fun r_1 hr_1 => ?_)
  have er_1 := hr_1
  subst er_1
  refine W.eq (g2 := F0 m 9 ls [.int 0]) rfl ?_
  refine lv_if_eq (tgt := 36) hx hb dX9_today_9 (by decide) (fun _ => ?_) (fun c_2 => absurd (by decide) c_2)
  refine lv_bipush (v := (-2)) hx hb dX9_today_36 (by decide) ?_
  exact ret_i hx hb hr hlocks ⟨rfl, _, rfl, rfl⟩ (fun _ h => absurd h List.not_mem_nil) (Nat.le_refl _) (Nat.le_refl _) dX9_today_38
set_option maxHeartbeats 4000000 in
set_option maxRecDepth 100000 in
theorem f_X9_last (l : Launch) (D : va_G) (cy : Nat → ClassId) (xa : Nat → Nat) (n0 : Int32) (n1 : Int32) : MM l yX9_last cX9_last 3 (some .int) 2 0 0 D cy [.ref (xa 0), .int n0, .int n1] (fun H => va_P D vwCl [((xa 0), .inr (9, [.ref (xa 1), .ref (xa 2), .ref (xa 3), .ref (xa 4), .ref (xa 5), .ref (xa 6), .ref (xa 7), .ref (xa 8), .ref (xa 9), .int 0, .ref (xa 11), .null, .int 0, .int (-1)])), ((xa 11), .inr (2, [.int 0, .int 0, .int 0, .int 0, .int 0, .int 0, .int 0, .int 0, .int 1, .int 10, .int 0, .int 0, .int 0, .int 0, .ref (xa 20), .ref (xa 21), .ref (xa 22), .ref (xa 23), .ref (xa 24), .ref (xa 25), .ref (xa 26)]))] H) (PuI (fun r => r = (-2))) noF := by
  refine MM.of (by decide) (Nat.le_of_ble_eq_true rfl) ?_
  intro p e s m below meth c C hP ls hl
  obtain ⟨hx, hb, hr, hml, hown, hts, hlocks, hK, hnm⟩ := C
  have hP : va_P D vwCl [((xa 0), .inr (9, [.ref (xa 1), .ref (xa 2), .ref (xa 3), .ref (xa 4), .ref (xa 5), .ref (xa 6), .ref (xa 7), .ref (xa 8), .ref (xa 9), .int 0, .ref (xa 11), .null, .int 0, .int (-1)])), ((xa 11), .inr (2, [.int 0, .int 0, .int 0, .int 0, .int 0, .int 0, .int 0, .int 0, .int 1, .int 10, .int 0, .int 0, .int 0, .int 0, .ref (xa 20), .ref (xa 21), .ref (xa 22), .ref (xa 23), .ref (xa 24), .ref (xa 25), .ref (xa 26)]))] s.heap := hP
  have hl : lv_has ls 3 [(0, .ref (xa 0)), (1, .int n0), (2, .int n1)] := hl
  refine lv_aload_n hx hb dX9_last_0 rfl (lv_at hl 0 rfl) ?_
  refine va_get (D := D) (ci := 9) (v := .ref (xa 11)) (C := RX9) (T := TX9) (N := 14) hx hb hts lay_X9 hown hK.1 hP 0 rfl rfl 10 (by decide) (hts _ fl_X9_67) (fun _ h9 => h9) rfl dX9_last_1 ?_
  refine lv_iload_n hx hb dX9_last_4 rfl (lv_at hl 1 rfl) ?_
  refine lv_iload_n hx hb dX9_last_5 rfl (lv_at hl 2 rfl) ?_
  refine pu_calli (runV (As := [.int n0, .int n1]) (rest := []) ⟨hx, hb, hml, hown, hts⟩ (f_hasStore l D cy xa n0 n1 ) sV_X9_160 hK (va_recv hK.1 hP (ci := 2) (q0 := 1) rfl rfl) (hP.sub (ws' := [((xa 11), .inr (2, [.int 0, .int 0, .int 0, .int 0, .int 0, .int 0, .int 0, .int 0, .int 1, .int 10, .int 0, .int 0, .int 0, .int 0, .ref (xa 20), .ref (xa 21), .ref (xa 22), .ref (xa 23), .ref (xa 24), .ref (xa 25), .ref (xa 26)]))]) [1] rfl) ⟨Nat.le_of_ble_eq_true rfl, Nat.le_of_ble_eq_true rfl⟩ rfl hl.1 rfl (Nat.le_of_ble_eq_true rfl) dX9_last_6 ⟨Nat.le_of_ble_eq_true rfl, Nat.le_of_ble_eq_true rfl⟩) (fun r_1 hr_1 => ?_)
  have er_1 := hr_1
  subst er_1
  refine W.eq (g2 := F0 m 9 ls [.int 0]) rfl ?_
  refine lv_if_ne (tgt := 15) hx hb dX9_last_9 (by decide) (fun c_2 => absurd rfl c_2) (fun _ => ?_)
  refine lv_bipush (v := (-2)) hx hb dX9_last_12 (by decide) ?_
  exact ret_i hx hb hr hlocks ⟨rfl, _, rfl, rfl⟩ (fun _ h => absurd h List.not_mem_nil) (Nat.le_refl _) (Nat.le_refl _) dX9_last_14
set_option maxHeartbeats 4000000 in
set_option maxRecDepth 100000 in
theorem f_X9_signs (l : Launch) (D : va_G) (cy : Nat → ClassId) (xa : Nat → Nat) (n0 : Int32) (n1 : Int32) : MM l yX9_signs cX9_signs 8 (some .long) 2 0 0 D cy [.ref (xa 0), .int n0, .int n1] (fun H => va_P D vwCl [((xa 0), .inr (9, [.ref (xa 1), .ref (xa 2), .ref (xa 3), .ref (xa 4), .ref (xa 5), .ref (xa 6), .ref (xa 7), .ref (xa 8), .ref (xa 9), .int 0, .ref (xa 11), .null, .int 0, .int (-1)])), ((xa 11), .inr (2, [.int 0, .int 0, .int 0, .int 0, .int 0, .int 0, .int 0, .int 0, .int 1, .int 10, .int 0, .int 0, .int 0, .int 0, .ref (xa 20), .ref (xa 21), .ref (xa 22), .ref (xa 23), .ref (xa 24), .ref (xa 25), .ref (xa 26)]))] H) (PuL (fun r => r = (-1000000000000))) noF := by
  refine MM.of (by decide) (Nat.le_of_ble_eq_true rfl) ?_
  intro p e s m below meth c C hP ls hl
  obtain ⟨hx, hb, hr, hml, hown, hts, hlocks, hK, hnm⟩ := C
  have hP : va_P D vwCl [((xa 0), .inr (9, [.ref (xa 1), .ref (xa 2), .ref (xa 3), .ref (xa 4), .ref (xa 5), .ref (xa 6), .ref (xa 7), .ref (xa 8), .ref (xa 9), .int 0, .ref (xa 11), .null, .int 0, .int (-1)])), ((xa 11), .inr (2, [.int 0, .int 0, .int 0, .int 0, .int 0, .int 0, .int 0, .int 0, .int 1, .int 10, .int 0, .int 0, .int 0, .int 0, .ref (xa 20), .ref (xa 21), .ref (xa 22), .ref (xa 23), .ref (xa 24), .ref (xa 25), .ref (xa 26)]))] s.heap := hP
  have hl : lv_has ls 8 [(0, .ref (xa 0)), (1, .int n0), (2, .int n1)] := hl
  refine lv_aload_n hx hb dX9_signs_0 rfl (lv_at hl 0 rfl) ?_
  refine va_get (D := D) (ci := 9) (v := .ref (xa 11)) (C := RX9) (T := TX9) (N := 14) hx hb hts lay_X9 hown hK.1 hP 0 rfl rfl 10 (by decide) (hts _ fl_X9_67) (fun _ h9 => h9) rfl dX9_signs_1 ?_
  refine lv_iload_n hx hb dX9_signs_4 rfl (lv_at hl 1 rfl) ?_
  refine lv_iload_n hx hb dX9_signs_5 rfl (lv_at hl 2 rfl) ?_
  refine pu_calli (runV (As := [.int n0, .int n1]) (rest := []) ⟨hx, hb, hml, hown, hts⟩ (f_hasStore l D cy xa n0 n1 ) sV_X9_160 hK (va_recv hK.1 hP (ci := 2) (q0 := 1) rfl rfl) (hP.sub (ws' := [((xa 11), .inr (2, [.int 0, .int 0, .int 0, .int 0, .int 0, .int 0, .int 0, .int 0, .int 1, .int 10, .int 0, .int 0, .int 0, .int 0, .ref (xa 20), .ref (xa 21), .ref (xa 22), .ref (xa 23), .ref (xa 24), .ref (xa 25), .ref (xa 26)]))]) [1] rfl) ⟨Nat.le_of_ble_eq_true rfl, Nat.le_of_ble_eq_true rfl⟩ rfl hl.1 rfl (Nat.le_of_ble_eq_true rfl) dX9_signs_6 ⟨Nat.le_of_ble_eq_true rfl, Nat.le_of_ble_eq_true rfl⟩) (fun r_1 hr_1 => ?_)
  have er_1 := hr_1
  subst er_1
  refine W.eq (g2 := F0 m 9 ls [.int 0]) rfl ?_
  refine lv_if_ne (tgt := 16) hx hb dX9_signs_9 (by decide) (fun c_2 => absurd rfl c_2) (fun _ => ?_)
  refine lv_ldc2 (v := (-1000000000000)) hx hb hown (hts _ kl_X9_176) dX9_signs_12 ?_
  exact ret_l hx hb hr hlocks ⟨rfl, _, rfl, rfl⟩ (fun _ h => absurd h List.not_mem_nil) (Nat.le_refl _) (Nat.le_refl _) dX9_signs_15
set_option maxHeartbeats 4000000 in
set_option maxRecDepth 100000 in
theorem f_X9_fork (l : Launch) (D : va_G) (cy : Nat → ClassId) (xa : Nat → Nat) (n0 : Int32) (n1 : Int32) (n2 : Int32) (n3 : Int32) : MM l yX9_fork cX9_fork 5 (some .long) 2 0 0 D cy [.ref (xa 0), .int n0, .int n1, .int n2, .int n3] (fun H => va_P D vwCl [((xa 0), .inr (9, [.ref (xa 1), .ref (xa 2), .ref (xa 3), .ref (xa 4), .ref (xa 5), .ref (xa 6), .ref (xa 7), .ref (xa 8), .ref (xa 9), .int 0, .ref (xa 11), .null, .int 0, .int (-1)])), ((xa 11), .inr (2, [.int 0, .int 0, .int 0, .int 0, .int 0, .int 0, .int 0, .int 0, .int 1, .int 10, .int 0, .int 0, .int 0, .int 0, .ref (xa 20), .ref (xa 21), .ref (xa 22), .ref (xa 23), .ref (xa 24), .ref (xa 25), .ref (xa 26)]))] H) (PuL (fun r => r = (-2))) noF := by
  refine MM.of (by decide) (Nat.le_of_ble_eq_true rfl) ?_
  intro p e s m below meth c C hP ls hl
  obtain ⟨hx, hb, hr, hml, hown, hts, hlocks, hK, hnm⟩ := C
  have hP : va_P D vwCl [((xa 0), .inr (9, [.ref (xa 1), .ref (xa 2), .ref (xa 3), .ref (xa 4), .ref (xa 5), .ref (xa 6), .ref (xa 7), .ref (xa 8), .ref (xa 9), .int 0, .ref (xa 11), .null, .int 0, .int (-1)])), ((xa 11), .inr (2, [.int 0, .int 0, .int 0, .int 0, .int 0, .int 0, .int 0, .int 0, .int 1, .int 10, .int 0, .int 0, .int 0, .int 0, .ref (xa 20), .ref (xa 21), .ref (xa 22), .ref (xa 23), .ref (xa 24), .ref (xa 25), .ref (xa 26)]))] s.heap := hP
  have hl : lv_has ls 5 [(0, .ref (xa 0)), (1, .int n0), (2, .int n1), (3, .int n2), (4, .int n3)] := hl
  refine lv_aload_n hx hb dX9_fork_0 rfl (lv_at hl 0 rfl) ?_
  refine va_get (D := D) (ci := 9) (v := .ref (xa 11)) (C := RX9) (T := TX9) (N := 14) hx hb hts lay_X9 hown hK.1 hP 0 rfl rfl 10 (by decide) (hts _ fl_X9_67) (fun _ h9 => h9) rfl dX9_fork_1 ?_
  refine lv_iload_n hx hb dX9_fork_4 rfl (lv_at hl 1 rfl) ?_
  refine lv_iload_n hx hb dX9_fork_5 rfl (lv_at hl 2 rfl) ?_
  refine pu_calli (runV (As := [.int n0, .int n1]) (rest := []) ⟨hx, hb, hml, hown, hts⟩ (f_hasTwo l D cy xa n0 n1 ) sV_X9_125 hK (va_recv hK.1 hP (ci := 2) (q0 := 1) rfl rfl) (hP.sub (ws' := [((xa 11), .inr (2, [.int 0, .int 0, .int 0, .int 0, .int 0, .int 0, .int 0, .int 0, .int 1, .int 10, .int 0, .int 0, .int 0, .int 0, .ref (xa 20), .ref (xa 21), .ref (xa 22), .ref (xa 23), .ref (xa 24), .ref (xa 25), .ref (xa 26)]))]) [1] rfl) ⟨Nat.le_of_ble_eq_true rfl, Nat.le_of_ble_eq_true rfl⟩ rfl hl.1 rfl (Nat.le_of_ble_eq_true rfl) dX9_fork_6 ⟨Nat.le_of_ble_eq_true rfl, Nat.le_of_ble_eq_true rfl⟩) (fun r_1 hr_1 => ?_)
  have er_1 := hr_1
  subst er_1
  refine W.eq (g2 := F0 m 9 ls [.int 0]) rfl ?_
  refine lv_if_eq (tgt := 31) hx hb dX9_fork_9 (by decide) (fun _ => ?_) (fun c_2 => absurd (by decide) c_2)
  refine lv_ldc2 (v := (-2)) hx hb hown (hts _ kl_X9_106) dX9_fork_31 ?_
  exact ret_l hx hb hr hlocks ⟨rfl, _, rfl, rfl⟩ (fun _ h => absurd h List.not_mem_nil) (Nat.le_refl _) (Nat.le_refl _) dX9_fork_34
set_option maxHeartbeats 4000000 in
set_option maxRecDepth 100000 in
theorem f_X9_middle (l : Launch) (D : va_G) (cy : Nat → ClassId) (xa : Nat → Nat) (n0 : Int32) (n1 : Int32) (n2 : Int32) : MM l yX9_middle cX9_middle 4 (some .int) 2 0 0 D cy [.ref (xa 0), .int n0, .int n1, .int n2] (fun H => va_P D vwCl [((xa 0), .inr (9, [.ref (xa 1), .ref (xa 2), .ref (xa 3), .ref (xa 4), .ref (xa 5), .ref (xa 6), .ref (xa 7), .ref (xa 8), .ref (xa 9), .int 0, .ref (xa 11), .null, .int 0, .int (-1)])), ((xa 11), .inr (2, [.int 0, .int 0, .int 0, .int 0, .int 0, .int 0, .int 0, .int 0, .int 1, .int 10, .int 0, .int 0, .int 0, .int 0, .ref (xa 20), .ref (xa 21), .ref (xa 22), .ref (xa 23), .ref (xa 24), .ref (xa 25), .ref (xa 26)]))] H) (PuI (fun r => r = (-2))) noF := by
  refine MM.of (by decide) (Nat.le_of_ble_eq_true rfl) ?_
  intro p e s m below meth c C hP ls hl
  obtain ⟨hx, hb, hr, hml, hown, hts, hlocks, hK, hnm⟩ := C
  have hP : va_P D vwCl [((xa 0), .inr (9, [.ref (xa 1), .ref (xa 2), .ref (xa 3), .ref (xa 4), .ref (xa 5), .ref (xa 6), .ref (xa 7), .ref (xa 8), .ref (xa 9), .int 0, .ref (xa 11), .null, .int 0, .int (-1)])), ((xa 11), .inr (2, [.int 0, .int 0, .int 0, .int 0, .int 0, .int 0, .int 0, .int 0, .int 1, .int 10, .int 0, .int 0, .int 0, .int 0, .ref (xa 20), .ref (xa 21), .ref (xa 22), .ref (xa 23), .ref (xa 24), .ref (xa 25), .ref (xa 26)]))] s.heap := hP
  have hl : lv_has ls 4 [(0, .ref (xa 0)), (1, .int n0), (2, .int n1), (3, .int n2)] := hl
  refine lv_aload_n hx hb dX9_middle_0 rfl (lv_at hl 0 rfl) ?_
  refine va_get (D := D) (ci := 9) (v := .ref (xa 11)) (C := RX9) (T := TX9) (N := 14) hx hb hts lay_X9 hown hK.1 hP 0 rfl rfl 10 (by decide) (hts _ fl_X9_67) (fun _ h9 => h9) rfl dX9_middle_1 ?_
  refine lv_iload_n hx hb dX9_middle_4 rfl (lv_at hl 1 rfl) ?_
  refine lv_iload_n hx hb dX9_middle_5 rfl (lv_at hl 2 rfl) ?_
  refine pu_calli (runV (As := [.int n0, .int n1]) (rest := []) ⟨hx, hb, hml, hown, hts⟩ (f_hasTwo l D cy xa n0 n1 ) sV_X9_125 hK (va_recv hK.1 hP (ci := 2) (q0 := 1) rfl rfl) (hP.sub (ws' := [((xa 11), .inr (2, [.int 0, .int 0, .int 0, .int 0, .int 0, .int 0, .int 0, .int 0, .int 1, .int 10, .int 0, .int 0, .int 0, .int 0, .ref (xa 20), .ref (xa 21), .ref (xa 22), .ref (xa 23), .ref (xa 24), .ref (xa 25), .ref (xa 26)]))]) [1] rfl) ⟨Nat.le_of_ble_eq_true rfl, Nat.le_of_ble_eq_true rfl⟩ rfl hl.1 rfl (Nat.le_of_ble_eq_true rfl) dX9_middle_6 ⟨Nat.le_of_ble_eq_true rfl, Nat.le_of_ble_eq_true rfl⟩) (fun r_1 hr_1 => ?_)
  have er_1 := hr_1
  subst er_1
  refine W.eq (g2 := F0 m 9 ls [.int 0]) rfl ?_
  refine lv_if_eq (tgt := 23) hx hb dX9_middle_9 (by decide) (fun _ => ?_) (fun c_2 => absurd (by decide) c_2)
  refine lv_bipush (v := (-2)) hx hb dX9_middle_23 (by decide) ?_
  exact ret_i hx hb hr hlocks ⟨rfl, _, rfl, rfl⟩ (fun _ h => absurd h List.not_mem_nil) (Nat.le_refl _) (Nat.le_refl _) dX9_middle_25
set_option maxHeartbeats 4000000 in
set_option maxRecDepth 100000 in
theorem f_X9_shares (l : Launch) (D : va_G) (cy : Nat → ClassId) (xa : Nat → Nat) (n0 : Int32) (n1 : Int32) (n2 : Int32) : MM l yX9_shares cX9_shares 6 (some .long) 2 0 0 D cy [.ref (xa 0), .int n0, .int n1, .int n2] (fun H => va_P D vwCl [((xa 0), .inr (9, [.ref (xa 1), .ref (xa 2), .ref (xa 3), .ref (xa 4), .ref (xa 5), .ref (xa 6), .ref (xa 7), .ref (xa 8), .ref (xa 9), .int 0, .ref (xa 11), .null, .int 0, .int (-1)])), ((xa 11), .inr (2, [.int 0, .int 0, .int 0, .int 0, .int 0, .int 0, .int 0, .int 0, .int 1, .int 10, .int 0, .int 0, .int 0, .int 0, .ref (xa 20), .ref (xa 21), .ref (xa 22), .ref (xa 23), .ref (xa 24), .ref (xa 25), .ref (xa 26)]))] H) (PuL (fun r => r = (-1000000000000))) noF := by
  refine MM.of (by decide) (Nat.le_of_ble_eq_true rfl) ?_
  intro p e s m below meth c C hP ls hl
  obtain ⟨hx, hb, hr, hml, hown, hts, hlocks, hK, hnm⟩ := C
  have hP : va_P D vwCl [((xa 0), .inr (9, [.ref (xa 1), .ref (xa 2), .ref (xa 3), .ref (xa 4), .ref (xa 5), .ref (xa 6), .ref (xa 7), .ref (xa 8), .ref (xa 9), .int 0, .ref (xa 11), .null, .int 0, .int (-1)])), ((xa 11), .inr (2, [.int 0, .int 0, .int 0, .int 0, .int 0, .int 0, .int 0, .int 0, .int 1, .int 10, .int 0, .int 0, .int 0, .int 0, .ref (xa 20), .ref (xa 21), .ref (xa 22), .ref (xa 23), .ref (xa 24), .ref (xa 25), .ref (xa 26)]))] s.heap := hP
  have hl : lv_has ls 6 [(0, .ref (xa 0)), (1, .int n0), (2, .int n1), (3, .int n2)] := hl
  refine lv_aload_n hx hb dX9_shares_0 rfl (lv_at hl 0 rfl) ?_
  refine va_get (D := D) (ci := 9) (v := .ref (xa 11)) (C := RX9) (T := TX9) (N := 14) hx hb hts lay_X9 hown hK.1 hP 0 rfl rfl 10 (by decide) (hts _ fl_X9_67) (fun _ h9 => h9) rfl dX9_shares_1 ?_
  refine lv_iload_n hx hb dX9_shares_4 rfl (lv_at hl 1 rfl) ?_
  refine lv_iload_n hx hb dX9_shares_5 rfl (lv_at hl 2 rfl) ?_
  refine pu_calli (runV (As := [.int n0, .int n1]) (rest := []) ⟨hx, hb, hml, hown, hts⟩ (f_hasTwo l D cy xa n0 n1 ) sV_X9_125 hK (va_recv hK.1 hP (ci := 2) (q0 := 1) rfl rfl) (hP.sub (ws' := [((xa 11), .inr (2, [.int 0, .int 0, .int 0, .int 0, .int 0, .int 0, .int 0, .int 0, .int 1, .int 10, .int 0, .int 0, .int 0, .int 0, .ref (xa 20), .ref (xa 21), .ref (xa 22), .ref (xa 23), .ref (xa 24), .ref (xa 25), .ref (xa 26)]))]) [1] rfl) ⟨Nat.le_of_ble_eq_true rfl, Nat.le_of_ble_eq_true rfl⟩ rfl hl.1 rfl (Nat.le_of_ble_eq_true rfl) dX9_shares_6 ⟨Nat.le_of_ble_eq_true rfl, Nat.le_of_ble_eq_true rfl⟩) (fun r_1 hr_1 => ?_)
  have er_1 := hr_1
  subst er_1
  refine W.eq (g2 := F0 m 9 ls [.int 0]) rfl ?_
  refine lv_if_eq (tgt := 23) hx hb dX9_shares_9 (by decide) (fun _ => ?_) (fun c_2 => absurd (by decide) c_2)
  refine lv_ldc2 (v := (-1000000000000)) hx hb hown (hts _ kl_X9_176) dX9_shares_23 ?_
  exact ret_l hx hb hr hlocks ⟨rfl, _, rfl, rfl⟩ (fun _ h => absurd h List.not_mem_nil) (Nat.le_refl _) (Nat.le_refl _) dX9_shares_26
set_option maxHeartbeats 4000000 in
set_option maxRecDepth 100000 in
theorem f_X9_flown (l : Launch) (D : va_G) (cy : Nat → ClassId) (xa : Nat → Nat) (n0 : Int32) (n1 : Int32) (n2 : Int32) : MM l yX9_flown cX9_flown 4 (some .long) 2 0 0 D cy [.ref (xa 0), .int n0, .int n1, .int n2] (fun H => va_P D vwCl [((xa 0), .inr (9, [.ref (xa 1), .ref (xa 2), .ref (xa 3), .ref (xa 4), .ref (xa 5), .ref (xa 6), .ref (xa 7), .ref (xa 8), .ref (xa 9), .int 0, .ref (xa 11), .null, .int 0, .int (-1)])), ((xa 11), .inr (2, [.int 0, .int 0, .int 0, .int 0, .int 0, .int 0, .int 0, .int 0, .int 1, .int 10, .int 0, .int 0, .int 0, .int 0, .ref (xa 20), .ref (xa 21), .ref (xa 22), .ref (xa 23), .ref (xa 24), .ref (xa 25), .ref (xa 26)]))] H) (PuL (fun r => r = (-2))) noF := by
  refine MM.of (by decide) (Nat.le_of_ble_eq_true rfl) ?_
  intro p e s m below meth c C hP ls hl
  obtain ⟨hx, hb, hr, hml, hown, hts, hlocks, hK, hnm⟩ := C
  have hP : va_P D vwCl [((xa 0), .inr (9, [.ref (xa 1), .ref (xa 2), .ref (xa 3), .ref (xa 4), .ref (xa 5), .ref (xa 6), .ref (xa 7), .ref (xa 8), .ref (xa 9), .int 0, .ref (xa 11), .null, .int 0, .int (-1)])), ((xa 11), .inr (2, [.int 0, .int 0, .int 0, .int 0, .int 0, .int 0, .int 0, .int 0, .int 1, .int 10, .int 0, .int 0, .int 0, .int 0, .ref (xa 20), .ref (xa 21), .ref (xa 22), .ref (xa 23), .ref (xa 24), .ref (xa 25), .ref (xa 26)]))] s.heap := hP
  have hl : lv_has ls 4 [(0, .ref (xa 0)), (1, .int n0), (2, .int n1), (3, .int n2)] := hl
  refine lv_aload_n hx hb dX9_flown_0 rfl (lv_at hl 0 rfl) ?_
  refine va_get (D := D) (ci := 9) (v := .ref (xa 11)) (C := RX9) (T := TX9) (N := 14) hx hb hts lay_X9 hown hK.1 hP 0 rfl rfl 10 (by decide) (hts _ fl_X9_67) (fun _ h9 => h9) rfl dX9_flown_1 ?_
  refine lv_iload_n hx hb dX9_flown_4 rfl (lv_at hl 1 rfl) ?_
  refine lv_iload_n hx hb dX9_flown_5 rfl (lv_at hl 2 rfl) ?_
  refine pu_calli (runV (As := [.int n0, .int n1]) (rest := []) ⟨hx, hb, hml, hown, hts⟩ (f_hasStore l D cy xa n0 n1 ) sV_X9_160 hK (va_recv hK.1 hP (ci := 2) (q0 := 1) rfl rfl) (hP.sub (ws' := [((xa 11), .inr (2, [.int 0, .int 0, .int 0, .int 0, .int 0, .int 0, .int 0, .int 0, .int 1, .int 10, .int 0, .int 0, .int 0, .int 0, .ref (xa 20), .ref (xa 21), .ref (xa 22), .ref (xa 23), .ref (xa 24), .ref (xa 25), .ref (xa 26)]))]) [1] rfl) ⟨Nat.le_of_ble_eq_true rfl, Nat.le_of_ble_eq_true rfl⟩ rfl hl.1 rfl (Nat.le_of_ble_eq_true rfl) dX9_flown_6 ⟨Nat.le_of_ble_eq_true rfl, Nat.le_of_ble_eq_true rfl⟩) (fun r_1 hr_1 => ?_)
  have er_1 := hr_1
  subst er_1
  refine W.eq (g2 := F0 m 9 ls [.int 0]) rfl ?_
  refine lv_if_eq (tgt := 19) hx hb dX9_flown_9 (by decide) (fun _ => ?_) (fun c_2 => absurd (by decide) c_2)
  refine lv_ldc2 (v := (-2)) hx hb hown (hts _ kl_X9_106) dX9_flown_19 ?_
  exact ret_l hx hb hr hlocks ⟨rfl, _, rfl, rfl⟩ (fun _ h => absurd h List.not_mem_nil) (Nat.le_refl _) (Nat.le_refl _) dX9_flown_22
set_option maxHeartbeats 4000000 in
set_option maxRecDepth 100000 in
theorem f_X9_plane (l : Launch) (D : va_G) (cy : Nat → ClassId) (xa : Nat → Nat) (n0 : Int32) (n1 : Int32) : MM l yX9_plane cX9_plane 9 (some .int) 2 0 0 D cy [.ref (xa 0), .int n0, .int n1] (fun H => va_P D vwCl [((xa 0), .inr (9, [.ref (xa 1), .ref (xa 2), .ref (xa 3), .ref (xa 4), .ref (xa 5), .ref (xa 6), .ref (xa 7), .ref (xa 8), .ref (xa 9), .int 0, .ref (xa 11), .null, .int 0, .int (-1)])), ((xa 11), .inr (2, [.int 0, .int 0, .int 0, .int 0, .int 0, .int 0, .int 0, .int 0, .int 1, .int 10, .int 0, .int 0, .int 0, .int 0, .ref (xa 20), .ref (xa 21), .ref (xa 22), .ref (xa 23), .ref (xa 24), .ref (xa 25), .ref (xa 26)]))] H) (PuI (fun r => r = (-2))) noF := by
  refine MM.of (by decide) (Nat.le_of_ble_eq_true rfl) ?_
  intro p e s m below meth c C hP ls hl
  obtain ⟨hx, hb, hr, hml, hown, hts, hlocks, hK, hnm⟩ := C
  have hP : va_P D vwCl [((xa 0), .inr (9, [.ref (xa 1), .ref (xa 2), .ref (xa 3), .ref (xa 4), .ref (xa 5), .ref (xa 6), .ref (xa 7), .ref (xa 8), .ref (xa 9), .int 0, .ref (xa 11), .null, .int 0, .int (-1)])), ((xa 11), .inr (2, [.int 0, .int 0, .int 0, .int 0, .int 0, .int 0, .int 0, .int 0, .int 1, .int 10, .int 0, .int 0, .int 0, .int 0, .ref (xa 20), .ref (xa 21), .ref (xa 22), .ref (xa 23), .ref (xa 24), .ref (xa 25), .ref (xa 26)]))] s.heap := hP
  have hl : lv_has ls 9 [(0, .ref (xa 0)), (1, .int n0), (2, .int n1)] := hl
  refine lv_aload_n hx hb dX9_plane_0 rfl (lv_at hl 0 rfl) ?_
  refine va_get (D := D) (ci := 9) (v := .ref (xa 11)) (C := RX9) (T := TX9) (N := 14) hx hb hts lay_X9 hown hK.1 hP 0 rfl rfl 10 (by decide) (hts _ fl_X9_67) (fun _ h9 => h9) rfl dX9_plane_1 ?_
  refine lv_iload_n hx hb dX9_plane_4 rfl (lv_at hl 1 rfl) ?_
  refine lv_iload_n hx hb dX9_plane_5 rfl (lv_at hl 2 rfl) ?_
  refine pu_calli (runV (As := [.int n0, .int n1]) (rest := []) ⟨hx, hb, hml, hown, hts⟩ (f_hasStore l D cy xa n0 n1 ) sV_X9_160 hK (va_recv hK.1 hP (ci := 2) (q0 := 1) rfl rfl) (hP.sub (ws' := [((xa 11), .inr (2, [.int 0, .int 0, .int 0, .int 0, .int 0, .int 0, .int 0, .int 0, .int 1, .int 10, .int 0, .int 0, .int 0, .int 0, .ref (xa 20), .ref (xa 21), .ref (xa 22), .ref (xa 23), .ref (xa 24), .ref (xa 25), .ref (xa 26)]))]) [1] rfl) ⟨Nat.le_of_ble_eq_true rfl, Nat.le_of_ble_eq_true rfl⟩ rfl hl.1 rfl (Nat.le_of_ble_eq_true rfl) dX9_plane_6 ⟨Nat.le_of_ble_eq_true rfl, Nat.le_of_ble_eq_true rfl⟩) (fun r_1 hr_1 => ?_)
  have er_1 := hr_1
  subst er_1
  refine W.eq (g2 := F0 m 9 ls [.int 0]) rfl ?_
  refine lv_if_ne (tgt := 15) hx hb dX9_plane_9 (by decide) (fun c_2 => absurd rfl c_2) (fun _ => ?_)
  refine lv_bipush (v := (-2)) hx hb dX9_plane_12 (by decide) ?_
  exact ret_i hx hb hr hlocks ⟨rfl, _, rfl, rfl⟩ (fun _ h => absurd h List.not_mem_nil) (Nat.le_refl _) (Nat.le_refl _) dX9_plane_14
set_option maxHeartbeats 4000000 in
set_option maxRecDepth 100000 in
theorem f_X9_edge (l : Launch) (D : va_G) (cy : Nat → ClassId) (xa : Nat → Nat) (n0 : Int32) : MM l yX9_edge cX9_edge 4 (some .int) 1 0 0 D cy [.ref (xa 0), .int n0] (fun H => va_P D vwCl [((xa 0), .inr (9, [.ref (xa 1), .ref (xa 2), .ref (xa 3), .ref (xa 4), .ref (xa 5), .ref (xa 6), .ref (xa 7), .ref (xa 8), .ref (xa 9), .int 0, .ref (xa 11), .null, .int 0, .int (-1)])), ((xa 11), .inr (2, [.int 0, .int 0, .int 0, .int 0, .int 0, .int 0, .int 0, .int 0, .int 1, .int 10, .int 0, .int 0, .int 0, .int 0, .ref (xa 20), .ref (xa 21), .ref (xa 22), .ref (xa 23), .ref (xa 24), .ref (xa 25), .ref (xa 26)]))] H) (PuI (fun r => r = (-2))) noF := by
  refine MM.of (by decide) (Nat.le_of_ble_eq_true rfl) ?_
  intro p e s m below meth c C hP ls hl
  obtain ⟨hx, hb, hr, hml, hown, hts, hlocks, hK, hnm⟩ := C
  have hP : va_P D vwCl [((xa 0), .inr (9, [.ref (xa 1), .ref (xa 2), .ref (xa 3), .ref (xa 4), .ref (xa 5), .ref (xa 6), .ref (xa 7), .ref (xa 8), .ref (xa 9), .int 0, .ref (xa 11), .null, .int 0, .int (-1)])), ((xa 11), .inr (2, [.int 0, .int 0, .int 0, .int 0, .int 0, .int 0, .int 0, .int 0, .int 1, .int 10, .int 0, .int 0, .int 0, .int 0, .ref (xa 20), .ref (xa 21), .ref (xa 22), .ref (xa 23), .ref (xa 24), .ref (xa 25), .ref (xa 26)]))] s.heap := hP
  have hl : lv_has ls 4 [(0, .ref (xa 0)), (1, .int n0)] := hl
  refine lv_aload_n hx hb dX9_edge_0 rfl (lv_at hl 0 rfl) ?_
  refine va_get (D := D) (ci := 9) (v := .ref (xa 11)) (C := RX9) (T := TX9) (N := 14) hx hb hts lay_X9 hown hK.1 hP 0 rfl rfl 10 (by decide) (hts _ fl_X9_67) (fun _ h9 => h9) rfl dX9_edge_1 ?_
  refine lv_iload_n hx hb dX9_edge_4 rfl (lv_at hl 1 rfl) ?_
  refine pu_calli (runV (As := [.int n0]) (rest := []) ⟨hx, hb, hml, hown, hts⟩ (f_hasThing l D cy xa n0 ) sV_X9_242 hK (va_recv hK.1 hP (ci := 2) (q0 := 1) rfl rfl) (hP.sub (ws' := [((xa 11), .inr (2, [.int 0, .int 0, .int 0, .int 0, .int 0, .int 0, .int 0, .int 0, .int 1, .int 10, .int 0, .int 0, .int 0, .int 0, .ref (xa 20), .ref (xa 21), .ref (xa 22), .ref (xa 23), .ref (xa 24), .ref (xa 25), .ref (xa 26)]))]) [1] rfl) ⟨Nat.le_of_ble_eq_true rfl, Nat.le_of_ble_eq_true rfl⟩ rfl hl.1 rfl (Nat.le_of_ble_eq_true rfl) dX9_edge_5 ⟨Nat.le_of_ble_eq_true rfl, Nat.le_of_ble_eq_true rfl⟩) (fun r_1 hr_1 => ?_)
  have er_1 := hr_1
  subst er_1
  refine W.eq (g2 := F0 m 8 ls [.int 0]) rfl ?_
  refine lv_if_ne (tgt := 14) hx hb dX9_edge_8 (by decide) (fun c_2 => absurd rfl c_2) (fun _ => ?_)
  refine lv_bipush (v := (-2)) hx hb dX9_edge_11 (by decide) ?_
  exact ret_i hx hb hr hlocks ⟨rfl, _, rfl, rfl⟩ (fun _ h => absurd h List.not_mem_nil) (Nat.le_refl _) (Nat.le_refl _) dX9_edge_13
set_option maxHeartbeats 4000000 in
set_option maxRecDepth 100000 in
theorem f_X9_path (l : Launch) (D : va_G) (cy : Nat → ClassId) (xa : Nat → Nat) (n0 : Int32) (n1 : Int32) (n2 : Int32) (n3 : Int32) : MM l yX9_path cX9_path 5 (some .long) 2 0 0 D cy [.ref (xa 0), .int n0, .int n1, .int n2, .int n3] (fun H => va_P D vwCl [((xa 0), .inr (9, [.ref (xa 1), .ref (xa 2), .ref (xa 3), .ref (xa 4), .ref (xa 5), .ref (xa 6), .ref (xa 7), .ref (xa 8), .ref (xa 9), .int 0, .ref (xa 11), .null, .int 0, .int (-1)])), ((xa 11), .inr (2, [.int 0, .int 0, .int 0, .int 0, .int 0, .int 0, .int 0, .int 0, .int 1, .int 10, .int 0, .int 0, .int 0, .int 0, .ref (xa 20), .ref (xa 21), .ref (xa 22), .ref (xa 23), .ref (xa 24), .ref (xa 25), .ref (xa 26)]))] H) (PuL (fun r => r = (-2))) noF := by
  refine MM.of (by decide) (Nat.le_of_ble_eq_true rfl) ?_
  intro p e s m below meth c C hP ls hl
  obtain ⟨hx, hb, hr, hml, hown, hts, hlocks, hK, hnm⟩ := C
  have hP : va_P D vwCl [((xa 0), .inr (9, [.ref (xa 1), .ref (xa 2), .ref (xa 3), .ref (xa 4), .ref (xa 5), .ref (xa 6), .ref (xa 7), .ref (xa 8), .ref (xa 9), .int 0, .ref (xa 11), .null, .int 0, .int (-1)])), ((xa 11), .inr (2, [.int 0, .int 0, .int 0, .int 0, .int 0, .int 0, .int 0, .int 0, .int 1, .int 10, .int 0, .int 0, .int 0, .int 0, .ref (xa 20), .ref (xa 21), .ref (xa 22), .ref (xa 23), .ref (xa 24), .ref (xa 25), .ref (xa 26)]))] s.heap := hP
  have hl : lv_has ls 5 [(0, .ref (xa 0)), (1, .int n0), (2, .int n1), (3, .int n2), (4, .int n3)] := hl
  refine lv_aload_n hx hb dX9_path_0 rfl (lv_at hl 0 rfl) ?_
  refine va_get (D := D) (ci := 9) (v := .ref (xa 11)) (C := RX9) (T := TX9) (N := 14) hx hb hts lay_X9 hown hK.1 hP 0 rfl rfl 10 (by decide) (hts _ fl_X9_67) (fun _ h9 => h9) rfl dX9_path_1 ?_
  refine lv_iload_n hx hb dX9_path_4 rfl (lv_at hl 1 rfl) ?_
  refine lv_iload_n hx hb dX9_path_5 rfl (lv_at hl 2 rfl) ?_
  refine pu_calli (runV (As := [.int n0, .int n1]) (rest := []) ⟨hx, hb, hml, hown, hts⟩ (f_hasTwo l D cy xa n0 n1 ) sV_X9_125 hK (va_recv hK.1 hP (ci := 2) (q0 := 1) rfl rfl) (hP.sub (ws' := [((xa 11), .inr (2, [.int 0, .int 0, .int 0, .int 0, .int 0, .int 0, .int 0, .int 0, .int 1, .int 10, .int 0, .int 0, .int 0, .int 0, .ref (xa 20), .ref (xa 21), .ref (xa 22), .ref (xa 23), .ref (xa 24), .ref (xa 25), .ref (xa 26)]))]) [1] rfl) ⟨Nat.le_of_ble_eq_true rfl, Nat.le_of_ble_eq_true rfl⟩ rfl hl.1 rfl (Nat.le_of_ble_eq_true rfl) dX9_path_6 ⟨Nat.le_of_ble_eq_true rfl, Nat.le_of_ble_eq_true rfl⟩) (fun r_1 hr_1 => ?_)
  have er_1 := hr_1
  subst er_1
  refine W.eq (g2 := F0 m 9 ls [.int 0]) rfl ?_
  refine lv_if_eq (tgt := 31) hx hb dX9_path_9 (by decide) (fun _ => ?_) (fun c_2 => absurd (by decide) c_2)
  refine lv_ldc2 (v := (-2)) hx hb hown (hts _ kl_X9_106) dX9_path_31 ?_
  exact ret_l hx hb hr hlocks ⟨rfl, _, rfl, rfl⟩ (fun _ h => absurd h List.not_mem_nil) (Nat.le_refl _) (Nat.le_refl _) dX9_path_34
set_option maxHeartbeats 4000000 in
set_option maxRecDepth 100000 in
theorem f_X9_fed (l : Launch) (D : va_G) (cy : Nat → ClassId) (xa : Nat → Nat) (n0 : Int32) (n1 : Int32) : MM l yX9_fed cX9_fed 7 (some .int) 2 0 0 D cy [.ref (xa 0), .int n0, .int n1] (fun H => va_P D vwCl [((xa 0), .inr (9, [.ref (xa 1), .ref (xa 2), .ref (xa 3), .ref (xa 4), .ref (xa 5), .ref (xa 6), .ref (xa 7), .ref (xa 8), .ref (xa 9), .int 0, .ref (xa 11), .null, .int 0, .int (-1)])), ((xa 11), .inr (2, [.int 0, .int 0, .int 0, .int 0, .int 0, .int 0, .int 0, .int 0, .int 1, .int 10, .int 0, .int 0, .int 0, .int 0, .ref (xa 20), .ref (xa 21), .ref (xa 22), .ref (xa 23), .ref (xa 24), .ref (xa 25), .ref (xa 26)]))] H) (PuI (fun r => r = (-2))) noF := by
  refine MM.of (by decide) (Nat.le_of_ble_eq_true rfl) ?_
  intro p e s m below meth c C hP ls hl
  obtain ⟨hx, hb, hr, hml, hown, hts, hlocks, hK, hnm⟩ := C
  have hP : va_P D vwCl [((xa 0), .inr (9, [.ref (xa 1), .ref (xa 2), .ref (xa 3), .ref (xa 4), .ref (xa 5), .ref (xa 6), .ref (xa 7), .ref (xa 8), .ref (xa 9), .int 0, .ref (xa 11), .null, .int 0, .int (-1)])), ((xa 11), .inr (2, [.int 0, .int 0, .int 0, .int 0, .int 0, .int 0, .int 0, .int 0, .int 1, .int 10, .int 0, .int 0, .int 0, .int 0, .ref (xa 20), .ref (xa 21), .ref (xa 22), .ref (xa 23), .ref (xa 24), .ref (xa 25), .ref (xa 26)]))] s.heap := hP
  have hl : lv_has ls 7 [(0, .ref (xa 0)), (1, .int n0), (2, .int n1)] := hl
  refine lv_aload_n hx hb dX9_fed_0 rfl (lv_at hl 0 rfl) ?_
  refine va_get (D := D) (ci := 9) (v := .ref (xa 11)) (C := RX9) (T := TX9) (N := 14) hx hb hts lay_X9 hown hK.1 hP 0 rfl rfl 10 (by decide) (hts _ fl_X9_67) (fun _ h9 => h9) rfl dX9_fed_1 ?_
  refine lv_iload_n hx hb dX9_fed_4 rfl (lv_at hl 1 rfl) ?_
  refine lv_iload_n hx hb dX9_fed_5 rfl (lv_at hl 2 rfl) ?_
  refine pu_calli (runV (As := [.int n0, .int n1]) (rest := []) ⟨hx, hb, hml, hown, hts⟩ (f_hasTwo l D cy xa n0 n1 ) sV_X9_125 hK (va_recv hK.1 hP (ci := 2) (q0 := 1) rfl rfl) (hP.sub (ws' := [((xa 11), .inr (2, [.int 0, .int 0, .int 0, .int 0, .int 0, .int 0, .int 0, .int 0, .int 1, .int 10, .int 0, .int 0, .int 0, .int 0, .ref (xa 20), .ref (xa 21), .ref (xa 22), .ref (xa 23), .ref (xa 24), .ref (xa 25), .ref (xa 26)]))]) [1] rfl) ⟨Nat.le_of_ble_eq_true rfl, Nat.le_of_ble_eq_true rfl⟩ rfl hl.1 rfl (Nat.le_of_ble_eq_true rfl) dX9_fed_6 ⟨Nat.le_of_ble_eq_true rfl, Nat.le_of_ble_eq_true rfl⟩) (fun r_1 hr_1 => ?_)
  have er_1 := hr_1
  subst er_1
  refine W.eq (g2 := F0 m 9 ls [.int 0]) rfl ?_
  refine lv_if_ne (tgt := 15) hx hb dX9_fed_9 (by decide) (fun c_2 => absurd rfl c_2) (fun _ => ?_)
  refine lv_bipush (v := (-2)) hx hb dX9_fed_12 (by decide) ?_
  exact ret_i hx hb hr hlocks ⟨rfl, _, rfl, rfl⟩ (fun _ h => absurd h List.not_mem_nil) (Nat.le_refl _) (Nat.le_refl _) dX9_fed_14
set_option maxHeartbeats 4000000 in
set_option maxRecDepth 100000 in
theorem f_X9_given (l : Launch) (D : va_G) (cy : Nat → ClassId) (xa : Nat → Nat) (n0 : Int32) (n1 : Int32) (n2 : Int32) (n3 : Int32) : MM l yX9_given cX9_given 6 (some .int) 2 0 0 D cy [.ref (xa 0), .int n0, .int n1, .int n2, .int n3] (fun H => va_P D vwCl [((xa 0), .inr (9, [.ref (xa 1), .ref (xa 2), .ref (xa 3), .ref (xa 4), .ref (xa 5), .ref (xa 6), .ref (xa 7), .ref (xa 8), .ref (xa 9), .int 0, .ref (xa 11), .null, .int 0, .int (-1)])), ((xa 11), .inr (2, [.int 0, .int 0, .int 0, .int 0, .int 0, .int 0, .int 0, .int 0, .int 1, .int 10, .int 0, .int 0, .int 0, .int 0, .ref (xa 20), .ref (xa 21), .ref (xa 22), .ref (xa 23), .ref (xa 24), .ref (xa 25), .ref (xa 26)]))] H) (PuI (fun r => r = (-2))) noF := by
  refine MM.of (by decide) (Nat.le_of_ble_eq_true rfl) ?_
  intro p e s m below meth c C hP ls hl
  obtain ⟨hx, hb, hr, hml, hown, hts, hlocks, hK, hnm⟩ := C
  have hP : va_P D vwCl [((xa 0), .inr (9, [.ref (xa 1), .ref (xa 2), .ref (xa 3), .ref (xa 4), .ref (xa 5), .ref (xa 6), .ref (xa 7), .ref (xa 8), .ref (xa 9), .int 0, .ref (xa 11), .null, .int 0, .int (-1)])), ((xa 11), .inr (2, [.int 0, .int 0, .int 0, .int 0, .int 0, .int 0, .int 0, .int 0, .int 1, .int 10, .int 0, .int 0, .int 0, .int 0, .ref (xa 20), .ref (xa 21), .ref (xa 22), .ref (xa 23), .ref (xa 24), .ref (xa 25), .ref (xa 26)]))] s.heap := hP
  have hl : lv_has ls 6 [(0, .ref (xa 0)), (1, .int n0), (2, .int n1), (3, .int n2), (4, .int n3)] := hl
  refine lv_aload_n hx hb dX9_given_0 rfl (lv_at hl 0 rfl) ?_
  refine lv_iload_n hx hb dX9_given_1 rfl (lv_at hl 1 rfl) ?_
  refine lv_iload_n hx hb dX9_given_2 rfl (lv_at hl 2 rfl) ?_
  refine lv_iload_n hx hb dX9_given_3 rfl (lv_at hl 3 rfl) ?_
  refine lv_iload hx hb dX9_given_4 (lv_at hl 4 rfl) ?_
  refine pu_calli (runV (As := [.int n0, .int n1, .int n2, .int n3]) (rest := []) ⟨hx, hb, hml, hown, hts⟩ (f_shareState l D cy xa n0 n1 n2 n3 ) sV_X9_273 hK (va_recv hK.1 hP (ci := 9) (q0 := 0) rfl rfl) (hP.sub (ws' := [((xa 0), .inr (9, [.ref (xa 1), .ref (xa 2), .ref (xa 3), .ref (xa 4), .ref (xa 5), .ref (xa 6), .ref (xa 7), .ref (xa 8), .ref (xa 9), .int 0, .ref (xa 11), .null, .int 0, .int (-1)])), ((xa 11), .inr (2, [.int 0, .int 0, .int 0, .int 0, .int 0, .int 0, .int 0, .int 0, .int 1, .int 10, .int 0, .int 0, .int 0, .int 0, .ref (xa 20), .ref (xa 21), .ref (xa 22), .ref (xa 23), .ref (xa 24), .ref (xa 25), .ref (xa 26)]))]) [0, 1] rfl) ⟨Nat.le_of_ble_eq_true rfl, Nat.le_of_ble_eq_true rfl⟩ rfl hl.1 rfl (Nat.le_of_ble_eq_true rfl) dX9_given_6 ⟨Nat.le_of_ble_eq_true rfl, Nat.le_of_ble_eq_true rfl⟩) (fun r_1 hr_1 => ?_)
  have er_1 := hr_1
  subst er_1
  refine W.eq (g2 := F0 m 9 ls [.int (-2)]) rfl ?_
  refine lv_istore (lv' := [(5, .int (-2)), (0, .ref (xa 0)), (1, .int n0), (2, .int n1), (3, .int n2), (4, .int n3)]) hx hb dX9_given_9 hl (by decide) rfl (fun ls hl => ?_)
  refine lv_iload hx hb dX9_given_11 (lv_at hl 0 rfl) ?_
  refine lv_if_eq (tgt := 19) hx hb dX9_given_13 (by decide) (fun c_2 => absurd c_2 (by decide)) (fun _ => ?_)
  refine lv_iload hx hb dX9_given_16 (lv_at hl 0 rfl) ?_
  exact ret_i hx hb hr hlocks ⟨rfl, _, rfl, rfl⟩ (fun _ h => absurd h List.not_mem_nil) (Nat.le_refl _) (Nat.le_refl _) dX9_given_18
set_option maxHeartbeats 4000000 in
set_option maxRecDepth 100000 in
theorem f_X9_asks (l : Launch) (D : va_G) (cy : Nat → ClassId) (xa : Nat → Nat) (n0 : Int32) (n1 : Int32) (n2 : Int32) (n3 : Int32) (n4 : Int32) : MM l yX9_asks cX9_asks 7 (some .int) 1 0 0 D cy [.ref (xa 0), .int n0, .int n1, .int n2, .int n3, .int n4] (fun H => va_P D vwCl [((xa 0), .inr (9, [.ref (xa 1), .ref (xa 2), .ref (xa 3), .ref (xa 4), .ref (xa 5), .ref (xa 6), .ref (xa 7), .ref (xa 8), .ref (xa 9), .int 0, .ref (xa 11), .null, .int 0, .int (-1)])), ((xa 11), .inr (2, [.int 0, .int 0, .int 0, .int 0, .int 0, .int 0, .int 0, .int 0, .int 1, .int 10, .int 0, .int 0, .int 0, .int 0, .ref (xa 20), .ref (xa 21), .ref (xa 22), .ref (xa 23), .ref (xa 24), .ref (xa 25), .ref (xa 26)]))] H) (PuI (fun r => r = (-2))) noF := by
  refine MM.of (by decide) (Nat.le_of_ble_eq_true rfl) ?_
  intro p e s m below meth c C hP ls hl
  obtain ⟨hx, hb, hr, hml, hown, hts, hlocks, hK, hnm⟩ := C
  have hP : va_P D vwCl [((xa 0), .inr (9, [.ref (xa 1), .ref (xa 2), .ref (xa 3), .ref (xa 4), .ref (xa 5), .ref (xa 6), .ref (xa 7), .ref (xa 8), .ref (xa 9), .int 0, .ref (xa 11), .null, .int 0, .int (-1)])), ((xa 11), .inr (2, [.int 0, .int 0, .int 0, .int 0, .int 0, .int 0, .int 0, .int 0, .int 1, .int 10, .int 0, .int 0, .int 0, .int 0, .ref (xa 20), .ref (xa 21), .ref (xa 22), .ref (xa 23), .ref (xa 24), .ref (xa 25), .ref (xa 26)]))] s.heap := hP
  have hl : lv_has ls 7 [(0, .ref (xa 0)), (1, .int n0), (2, .int n1), (3, .int n2), (4, .int n3), (5, .int n4)] := hl
  refine lv_aload_n hx hb dX9_asks_0 rfl (lv_at hl 0 rfl) ?_
  refine va_get (D := D) (ci := 9) (v := .ref (xa 11)) (C := RX9) (T := TX9) (N := 14) hx hb hts lay_X9 hown hK.1 hP 0 rfl rfl 10 (by decide) (hts _ fl_X9_67) (fun _ h9 => h9) rfl dX9_asks_1 ?_
  refine lv_iload hx hb dX9_asks_4 (lv_at hl 5 rfl) ?_
  refine pu_calli (runV (As := [.int n4]) (rest := []) ⟨hx, hb, hml, hown, hts⟩ (f_hasThing l D cy xa n4 ) sV_X9_242 hK (va_recv hK.1 hP (ci := 2) (q0 := 1) rfl rfl) (hP.sub (ws' := [((xa 11), .inr (2, [.int 0, .int 0, .int 0, .int 0, .int 0, .int 0, .int 0, .int 0, .int 1, .int 10, .int 0, .int 0, .int 0, .int 0, .ref (xa 20), .ref (xa 21), .ref (xa 22), .ref (xa 23), .ref (xa 24), .ref (xa 25), .ref (xa 26)]))]) [1] rfl) ⟨Nat.le_of_ble_eq_true rfl, Nat.le_of_ble_eq_true rfl⟩ rfl hl.1 rfl (Nat.le_of_ble_eq_true rfl) dX9_asks_6 ⟨Nat.le_of_ble_eq_true rfl, Nat.le_of_ble_eq_true rfl⟩) (fun r_1 hr_1 => ?_)
  have er_1 := hr_1
  subst er_1
  refine W.eq (g2 := F0 m 9 ls [.int 0]) rfl ?_
  refine lv_if_ne (tgt := 15) hx hb dX9_asks_9 (by decide) (fun c_2 => absurd rfl c_2) (fun _ => ?_)
  refine lv_bipush (v := (-2)) hx hb dX9_asks_12 (by decide) ?_
  exact ret_i hx hb hr hlocks ⟨rfl, _, rfl, rfl⟩ (fun _ h => absurd h List.not_mem_nil) (Nat.le_refl _) (Nat.le_refl _) dX9_asks_14
set_option maxHeartbeats 4000000 in
set_option maxRecDepth 100000 in
theorem f_X9_pays (l : Launch) (D : va_G) (cy : Nat → ClassId) (xa : Nat → Nat) (n0 : Int32) (n1 : Int32) (n2 : Int32) (n3 : Int32) (n4 : Int32) : MM l yX9_pays cX9_pays 9 (some .long) 1 0 0 D cy [.ref (xa 0), .int n0, .int n1, .int n2, .int n3, .int n4] (fun H => va_P D vwCl [((xa 0), .inr (9, [.ref (xa 1), .ref (xa 2), .ref (xa 3), .ref (xa 4), .ref (xa 5), .ref (xa 6), .ref (xa 7), .ref (xa 8), .ref (xa 9), .int 0, .ref (xa 11), .null, .int 0, .int (-1)])), ((xa 11), .inr (2, [.int 0, .int 0, .int 0, .int 0, .int 0, .int 0, .int 0, .int 0, .int 1, .int 10, .int 0, .int 0, .int 0, .int 0, .ref (xa 20), .ref (xa 21), .ref (xa 22), .ref (xa 23), .ref (xa 24), .ref (xa 25), .ref (xa 26)]))] H) (PuL (fun r => r = (-2))) noF := by
  refine MM.of (by decide) (Nat.le_of_ble_eq_true rfl) ?_
  intro p e s m below meth c C hP ls hl
  obtain ⟨hx, hb, hr, hml, hown, hts, hlocks, hK, hnm⟩ := C
  have hP : va_P D vwCl [((xa 0), .inr (9, [.ref (xa 1), .ref (xa 2), .ref (xa 3), .ref (xa 4), .ref (xa 5), .ref (xa 6), .ref (xa 7), .ref (xa 8), .ref (xa 9), .int 0, .ref (xa 11), .null, .int 0, .int (-1)])), ((xa 11), .inr (2, [.int 0, .int 0, .int 0, .int 0, .int 0, .int 0, .int 0, .int 0, .int 1, .int 10, .int 0, .int 0, .int 0, .int 0, .ref (xa 20), .ref (xa 21), .ref (xa 22), .ref (xa 23), .ref (xa 24), .ref (xa 25), .ref (xa 26)]))] s.heap := hP
  have hl : lv_has ls 9 [(0, .ref (xa 0)), (1, .int n0), (2, .int n1), (3, .int n2), (4, .int n3), (5, .int n4)] := hl
  refine lv_aload_n hx hb dX9_pays_0 rfl (lv_at hl 0 rfl) ?_
  refine va_get (D := D) (ci := 9) (v := .ref (xa 11)) (C := RX9) (T := TX9) (N := 14) hx hb hts lay_X9 hown hK.1 hP 0 rfl rfl 10 (by decide) (hts _ fl_X9_67) (fun _ h9 => h9) rfl dX9_pays_1 ?_
  refine lv_iload hx hb dX9_pays_4 (lv_at hl 5 rfl) ?_
  refine pu_calli (runV (As := [.int n4]) (rest := []) ⟨hx, hb, hml, hown, hts⟩ (f_hasThing l D cy xa n4 ) sV_X9_242 hK (va_recv hK.1 hP (ci := 2) (q0 := 1) rfl rfl) (hP.sub (ws' := [((xa 11), .inr (2, [.int 0, .int 0, .int 0, .int 0, .int 0, .int 0, .int 0, .int 0, .int 1, .int 10, .int 0, .int 0, .int 0, .int 0, .ref (xa 20), .ref (xa 21), .ref (xa 22), .ref (xa 23), .ref (xa 24), .ref (xa 25), .ref (xa 26)]))]) [1] rfl) ⟨Nat.le_of_ble_eq_true rfl, Nat.le_of_ble_eq_true rfl⟩ rfl hl.1 rfl (Nat.le_of_ble_eq_true rfl) dX9_pays_6 ⟨Nat.le_of_ble_eq_true rfl, Nat.le_of_ble_eq_true rfl⟩) (fun r_1 hr_1 => ?_)
  have er_1 := hr_1
  subst er_1
  refine W.eq (g2 := F0 m 9 ls [.int 0]) rfl ?_
  refine lv_if_ne (tgt := 16) hx hb dX9_pays_9 (by decide) (fun c_2 => absurd rfl c_2) (fun _ => ?_)
  refine lv_ldc2 (v := (-2)) hx hb hown (hts _ kl_X9_106) dX9_pays_12 ?_
  exact ret_l hx hb hr hlocks ⟨rfl, _, rfl, rfl⟩ (fun _ h => absurd h List.not_mem_nil) (Nat.le_refl _) (Nat.le_refl _) dX9_pays_15
set_option maxHeartbeats 4000000 in
set_option maxRecDepth 100000 in
theorem f_X9_burnt (l : Launch) (D : va_G) (cy : Nat → ClassId) (xa : Nat → Nat) (n0 : Int32) (n1 : Int32) (n2 : Int32) (n3 : Int32) : MM l yX9_burnt cX9_burnt 5 (some .long) 2 0 0 D cy [.ref (xa 0), .int n0, .int n1, .int n2, .int n3] (fun H => va_P D vwCl [((xa 0), .inr (9, [.ref (xa 1), .ref (xa 2), .ref (xa 3), .ref (xa 4), .ref (xa 5), .ref (xa 6), .ref (xa 7), .ref (xa 8), .ref (xa 9), .int 0, .ref (xa 11), .null, .int 0, .int (-1)])), ((xa 11), .inr (2, [.int 0, .int 0, .int 0, .int 0, .int 0, .int 0, .int 0, .int 0, .int 1, .int 10, .int 0, .int 0, .int 0, .int 0, .ref (xa 20), .ref (xa 21), .ref (xa 22), .ref (xa 23), .ref (xa 24), .ref (xa 25), .ref (xa 26)]))] H) (PuL (fun r => r = (-2))) noF := by
  refine MM.of (by decide) (Nat.le_of_ble_eq_true rfl) ?_
  intro p e s m below meth c C hP ls hl
  obtain ⟨hx, hb, hr, hml, hown, hts, hlocks, hK, hnm⟩ := C
  have hP : va_P D vwCl [((xa 0), .inr (9, [.ref (xa 1), .ref (xa 2), .ref (xa 3), .ref (xa 4), .ref (xa 5), .ref (xa 6), .ref (xa 7), .ref (xa 8), .ref (xa 9), .int 0, .ref (xa 11), .null, .int 0, .int (-1)])), ((xa 11), .inr (2, [.int 0, .int 0, .int 0, .int 0, .int 0, .int 0, .int 0, .int 0, .int 1, .int 10, .int 0, .int 0, .int 0, .int 0, .ref (xa 20), .ref (xa 21), .ref (xa 22), .ref (xa 23), .ref (xa 24), .ref (xa 25), .ref (xa 26)]))] s.heap := hP
  have hl : lv_has ls 5 [(0, .ref (xa 0)), (1, .int n0), (2, .int n1), (3, .int n2), (4, .int n3)] := hl
  refine lv_aload_n hx hb dX9_burnt_0 rfl (lv_at hl 0 rfl) ?_
  refine va_get (D := D) (ci := 9) (v := .ref (xa 11)) (C := RX9) (T := TX9) (N := 14) hx hb hts lay_X9 hown hK.1 hP 0 rfl rfl 10 (by decide) (hts _ fl_X9_67) (fun _ h9 => h9) rfl dX9_burnt_1 ?_
  refine lv_iload_n hx hb dX9_burnt_4 rfl (lv_at hl 1 rfl) ?_
  refine lv_iload_n hx hb dX9_burnt_5 rfl (lv_at hl 2 rfl) ?_
  refine pu_calli (runV (As := [.int n0, .int n1]) (rest := []) ⟨hx, hb, hml, hown, hts⟩ (f_hasStore l D cy xa n0 n1 ) sV_X9_160 hK (va_recv hK.1 hP (ci := 2) (q0 := 1) rfl rfl) (hP.sub (ws' := [((xa 11), .inr (2, [.int 0, .int 0, .int 0, .int 0, .int 0, .int 0, .int 0, .int 0, .int 1, .int 10, .int 0, .int 0, .int 0, .int 0, .ref (xa 20), .ref (xa 21), .ref (xa 22), .ref (xa 23), .ref (xa 24), .ref (xa 25), .ref (xa 26)]))]) [1] rfl) ⟨Nat.le_of_ble_eq_true rfl, Nat.le_of_ble_eq_true rfl⟩ rfl hl.1 rfl (Nat.le_of_ble_eq_true rfl) dX9_burnt_6 ⟨Nat.le_of_ble_eq_true rfl, Nat.le_of_ble_eq_true rfl⟩) (fun r_1 hr_1 => ?_)
  have er_1 := hr_1
  subst er_1
  refine W.eq (g2 := F0 m 9 ls [.int 0]) rfl ?_
  refine lv_if_eq (tgt := 27) hx hb dX9_burnt_9 (by decide) (fun _ => ?_) (fun c_2 => absurd (by decide) c_2)
  refine lv_ldc2 (v := (-2)) hx hb hown (hts _ kl_X9_106) dX9_burnt_27 ?_
  exact ret_l hx hb hr hlocks ⟨rfl, _, rfl, rfl⟩ (fun _ h => absurd h List.not_mem_nil) (Nat.le_refl _) (Nat.le_refl _) dX9_burnt_30
set_option maxHeartbeats 4000000 in
set_option maxRecDepth 100000 in
theorem f_X9_spread (l : Launch) (D : va_G) (cy : Nat → ClassId) (xa : Nat → Nat) (n0 : Int32) (n1 : Int32) (n2 : Int32) (n3 : Int32) : MM l yX9_spread cX9_spread 5 (some .long) 2 0 0 D cy [.ref (xa 0), .int n0, .int n1, .int n2, .int n3] (fun H => va_P D vwCl [((xa 0), .inr (9, [.ref (xa 1), .ref (xa 2), .ref (xa 3), .ref (xa 4), .ref (xa 5), .ref (xa 6), .ref (xa 7), .ref (xa 8), .ref (xa 9), .int 0, .ref (xa 11), .null, .int 0, .int (-1)])), ((xa 11), .inr (2, [.int 0, .int 0, .int 0, .int 0, .int 0, .int 0, .int 0, .int 0, .int 1, .int 10, .int 0, .int 0, .int 0, .int 0, .ref (xa 20), .ref (xa 21), .ref (xa 22), .ref (xa 23), .ref (xa 24), .ref (xa 25), .ref (xa 26)]))] H) (PuL (fun r => r = (-2))) noF := by
  refine MM.of (by decide) (Nat.le_of_ble_eq_true rfl) ?_
  intro p e s m below meth c C hP ls hl
  obtain ⟨hx, hb, hr, hml, hown, hts, hlocks, hK, hnm⟩ := C
  have hP : va_P D vwCl [((xa 0), .inr (9, [.ref (xa 1), .ref (xa 2), .ref (xa 3), .ref (xa 4), .ref (xa 5), .ref (xa 6), .ref (xa 7), .ref (xa 8), .ref (xa 9), .int 0, .ref (xa 11), .null, .int 0, .int (-1)])), ((xa 11), .inr (2, [.int 0, .int 0, .int 0, .int 0, .int 0, .int 0, .int 0, .int 0, .int 1, .int 10, .int 0, .int 0, .int 0, .int 0, .ref (xa 20), .ref (xa 21), .ref (xa 22), .ref (xa 23), .ref (xa 24), .ref (xa 25), .ref (xa 26)]))] s.heap := hP
  have hl : lv_has ls 5 [(0, .ref (xa 0)), (1, .int n0), (2, .int n1), (3, .int n2), (4, .int n3)] := hl
  refine lv_aload_n hx hb dX9_spread_0 rfl (lv_at hl 0 rfl) ?_
  refine va_get (D := D) (ci := 9) (v := .ref (xa 11)) (C := RX9) (T := TX9) (N := 14) hx hb hts lay_X9 hown hK.1 hP 0 rfl rfl 10 (by decide) (hts _ fl_X9_67) (fun _ h9 => h9) rfl dX9_spread_1 ?_
  refine lv_iload_n hx hb dX9_spread_4 rfl (lv_at hl 1 rfl) ?_
  refine lv_iload_n hx hb dX9_spread_5 rfl (lv_at hl 2 rfl) ?_
  refine pu_calli (runV (As := [.int n0, .int n1]) (rest := []) ⟨hx, hb, hml, hown, hts⟩ (f_hasStore l D cy xa n0 n1 ) sV_X9_160 hK (va_recv hK.1 hP (ci := 2) (q0 := 1) rfl rfl) (hP.sub (ws' := [((xa 11), .inr (2, [.int 0, .int 0, .int 0, .int 0, .int 0, .int 0, .int 0, .int 0, .int 1, .int 10, .int 0, .int 0, .int 0, .int 0, .ref (xa 20), .ref (xa 21), .ref (xa 22), .ref (xa 23), .ref (xa 24), .ref (xa 25), .ref (xa 26)]))]) [1] rfl) ⟨Nat.le_of_ble_eq_true rfl, Nat.le_of_ble_eq_true rfl⟩ rfl hl.1 rfl (Nat.le_of_ble_eq_true rfl) dX9_spread_6 ⟨Nat.le_of_ble_eq_true rfl, Nat.le_of_ble_eq_true rfl⟩) (fun r_1 hr_1 => ?_)
  have er_1 := hr_1
  subst er_1
  refine W.eq (g2 := F0 m 9 ls [.int 0]) rfl ?_
  refine lv_if_eq (tgt := 27) hx hb dX9_spread_9 (by decide) (fun _ => ?_) (fun c_2 => absurd (by decide) c_2)
  refine lv_ldc2 (v := (-2)) hx hb hown (hts _ kl_X9_106) dX9_spread_27 ?_
  exact ret_l hx hb hr hlocks ⟨rfl, _, rfl, rfl⟩ (fun _ h => absurd h List.not_mem_nil) (Nat.le_refl _) (Nat.le_refl _) dX9_spread_30
set_option maxHeartbeats 4000000 in
set_option maxRecDepth 100000 in
theorem f_X9_bear (l : Launch) (D : va_G) (cy : Nat → ClassId) (xa : Nat → Nat) (n0 : Int32) (n1 : Int32) (n2 : Int32) : MM l yX9_bear cX9_bear 10 (some .int) 2 0 0 D cy [.ref (xa 0), .int n0, .int n1, .int n2] (fun H => va_P D vwCl [((xa 0), .inr (9, [.ref (xa 1), .ref (xa 2), .ref (xa 3), .ref (xa 4), .ref (xa 5), .ref (xa 6), .ref (xa 7), .ref (xa 8), .ref (xa 9), .int 0, .ref (xa 11), .null, .int 0, .int (-1)])), ((xa 11), .inr (2, [.int 0, .int 0, .int 0, .int 0, .int 0, .int 0, .int 0, .int 0, .int 1, .int 10, .int 0, .int 0, .int 0, .int 0, .ref (xa 20), .ref (xa 21), .ref (xa 22), .ref (xa 23), .ref (xa 24), .ref (xa 25), .ref (xa 26)]))] H) (PuI (fun r => r = (-2))) noF := by
  refine MM.of (by decide) (Nat.le_of_ble_eq_true rfl) ?_
  intro p e s m below meth c C hP ls hl
  obtain ⟨hx, hb, hr, hml, hown, hts, hlocks, hK, hnm⟩ := C
  have hP : va_P D vwCl [((xa 0), .inr (9, [.ref (xa 1), .ref (xa 2), .ref (xa 3), .ref (xa 4), .ref (xa 5), .ref (xa 6), .ref (xa 7), .ref (xa 8), .ref (xa 9), .int 0, .ref (xa 11), .null, .int 0, .int (-1)])), ((xa 11), .inr (2, [.int 0, .int 0, .int 0, .int 0, .int 0, .int 0, .int 0, .int 0, .int 1, .int 10, .int 0, .int 0, .int 0, .int 0, .ref (xa 20), .ref (xa 21), .ref (xa 22), .ref (xa 23), .ref (xa 24), .ref (xa 25), .ref (xa 26)]))] s.heap := hP
  have hl : lv_has ls 10 [(0, .ref (xa 0)), (1, .int n0), (2, .int n1), (3, .int n2)] := hl
  refine lv_aload_n hx hb dX9_bear_0 rfl (lv_at hl 0 rfl) ?_
  refine va_get (D := D) (ci := 9) (v := .ref (xa 11)) (C := RX9) (T := TX9) (N := 14) hx hb hts lay_X9 hown hK.1 hP 0 rfl rfl 10 (by decide) (hts _ fl_X9_67) (fun _ h9 => h9) rfl dX9_bear_1 ?_
  refine lv_iload_n hx hb dX9_bear_4 rfl (lv_at hl 1 rfl) ?_
  refine lv_iload_n hx hb dX9_bear_5 rfl (lv_at hl 2 rfl) ?_
  refine pu_calli (runV (As := [.int n0, .int n1]) (rest := []) ⟨hx, hb, hml, hown, hts⟩ (f_hasStore l D cy xa n0 n1 ) sV_X9_160 hK (va_recv hK.1 hP (ci := 2) (q0 := 1) rfl rfl) (hP.sub (ws' := [((xa 11), .inr (2, [.int 0, .int 0, .int 0, .int 0, .int 0, .int 0, .int 0, .int 0, .int 1, .int 10, .int 0, .int 0, .int 0, .int 0, .ref (xa 20), .ref (xa 21), .ref (xa 22), .ref (xa 23), .ref (xa 24), .ref (xa 25), .ref (xa 26)]))]) [1] rfl) ⟨Nat.le_of_ble_eq_true rfl, Nat.le_of_ble_eq_true rfl⟩ rfl hl.1 rfl (Nat.le_of_ble_eq_true rfl) dX9_bear_6 ⟨Nat.le_of_ble_eq_true rfl, Nat.le_of_ble_eq_true rfl⟩) (fun r_1 hr_1 => ?_)
  have er_1 := hr_1
  subst er_1
  refine W.eq (g2 := F0 m 9 ls [.int 0]) rfl ?_
  refine lv_if_eq (tgt := 19) hx hb dX9_bear_9 (by decide) (fun _ => ?_) (fun c_2 => absurd (by decide) c_2)
  refine lv_bipush (v := (-2)) hx hb dX9_bear_19 (by decide) ?_
  exact ret_i hx hb hr hlocks ⟨rfl, _, rfl, rfl⟩ (fun _ h => absurd h List.not_mem_nil) (Nat.le_refl _) (Nat.le_refl _) dX9_bear_21
set_option maxHeartbeats 4000000 in
set_option maxRecDepth 100000 in
theorem f_X9_run (l : Launch) (D : va_G) (cy : Nat → ClassId) (xa : Nat → Nat) (n0 : Int32) : MM l yX9_run cX9_run 3 (some .int) 1 0 0 D cy [.ref (xa 0), .int n0] (fun H => va_P D vwCl [((xa 0), .inr (9, [.ref (xa 1), .ref (xa 2), .ref (xa 3), .ref (xa 4), .ref (xa 5), .ref (xa 6), .ref (xa 7), .ref (xa 8), .ref (xa 9), .int 0, .ref (xa 11), .null, .int 0, .int (-1)])), ((xa 11), .inr (2, [.int 0, .int 0, .int 0, .int 0, .int 0, .int 0, .int 0, .int 0, .int 1, .int 10, .int 0, .int 0, .int 0, .int 0, .ref (xa 20), .ref (xa 21), .ref (xa 22), .ref (xa 23), .ref (xa 24), .ref (xa 25), .ref (xa 26)]))] H) (PuI (fun r => r = (-2))) noF := by
  refine MM.of (by decide) (Nat.le_of_ble_eq_true rfl) ?_
  intro p e s m below meth c C hP ls hl
  obtain ⟨hx, hb, hr, hml, hown, hts, hlocks, hK, hnm⟩ := C
  have hP : va_P D vwCl [((xa 0), .inr (9, [.ref (xa 1), .ref (xa 2), .ref (xa 3), .ref (xa 4), .ref (xa 5), .ref (xa 6), .ref (xa 7), .ref (xa 8), .ref (xa 9), .int 0, .ref (xa 11), .null, .int 0, .int (-1)])), ((xa 11), .inr (2, [.int 0, .int 0, .int 0, .int 0, .int 0, .int 0, .int 0, .int 0, .int 1, .int 10, .int 0, .int 0, .int 0, .int 0, .ref (xa 20), .ref (xa 21), .ref (xa 22), .ref (xa 23), .ref (xa 24), .ref (xa 25), .ref (xa 26)]))] s.heap := hP
  have hl : lv_has ls 3 [(0, .ref (xa 0)), (1, .int n0)] := hl
  refine lv_iload_n hx hb dX9_run_0 rfl (lv_at hl 1 rfl) ?_
  refine pu_calli (runS (As := [.int n0]) (rest := []) ⟨hx, hb, hml, hown, hts⟩ (f_isSeed l D cy n0 ) sS_X9_301 hK (hP.sub (ws' := []) [] rfl) ⟨Nat.le_of_ble_eq_true rfl, Nat.le_of_ble_eq_true rfl⟩ rfl hl.1 rfl (Nat.le_of_ble_eq_true rfl) dX9_run_1 ⟨Nat.le_of_ble_eq_true rfl, Nat.le_of_ble_eq_true rfl⟩) (fun r_1 hr_1 => ?_)
  rcases hr_1 with hr_1_0 | hr_1_1
  · skip
    obtain ⟨er_1, hr_1_0_f0, hr_1_0_f1⟩ := hr_1_0
    have hr_1_0_f0 : 0 ≤ n0.toInt := hr_1_0_f0
    have hr_1_0_f1 : n0.toInt ≤ 2000000000 := hr_1_0_f1
    subst er_1
    refine W.eq (g2 := F0 m 4 ls [.int 1]) rfl ?_
    refine lv_if_eq (tgt := 17) hx hb dX9_run_4 (by decide) (fun c_2 => absurd c_2 (by decide)) (fun _ => ?_)
    refine lv_aload_n hx hb dX9_run_7 rfl (lv_at hl 0 rfl) ?_
    refine va_get (D := D) (ci := 9) (v := .ref (xa 11)) (C := RX9) (T := TX9) (N := 14) hx hb hts lay_X9 hown hK.1 hP 0 rfl rfl 10 (by decide) (hts _ fl_X9_67) (fun _ h9 => h9) rfl dX9_run_8 ?_
    refine va_get (D := D) (ci := 2) (v := .int 0) (C := RX2) (T := TX2) (N := 21) hx hb hts lay_X2 hown hK.1 hP 1 rfl rfl 1 (by decide) (hts _ fl_X9_155) (fun _ h9 => h9) rfl dX9_run_11 ?_
    refine lv_if_ne (tgt := 20) hx hb dX9_run_14 (by decide) (fun c_3 => absurd rfl c_3) (fun _ => ?_)
    refine lv_bipush (v := (-2)) hx hb dX9_run_17 (by decide) ?_
    exact ret_i hx hb hr hlocks ⟨rfl, _, rfl, rfl⟩ (fun _ h => absurd h List.not_mem_nil) (Nat.le_refl _) (Nat.le_refl _) dX9_run_19
  · skip
    obtain ⟨er_1, hr_1_1_f0⟩ := hr_1_1
    have hr_1_1_f0 : (n0.toInt < 0 ∨ 2000000000 < n0.toInt) := hr_1_1_f0
    subst er_1
    refine W.eq (g2 := F0 m 4 ls [.int 0]) rfl ?_
    refine lv_if_eq (tgt := 17) hx hb dX9_run_4 (by decide) (fun _ => ?_) (fun c_4 => absurd (by decide) c_4)
    refine lv_bipush (v := (-2)) hx hb dX9_run_17 (by decide) ?_
    exact ret_i hx hb hr hlocks ⟨rfl, _, rfl, rfl⟩ (fun _ h => absurd h List.not_mem_nil) (Nat.le_refl _) (Nat.le_refl _) dX9_run_19
set_option maxHeartbeats 4000000 in
set_option maxRecDepth 100000 in
theorem f_X9_told (l : Launch) (D : va_G) (cy : Nat → ClassId) (xa : Nat → Nat) (n0 : Int32) : MM l yX9_told cX9_told 3 (some .int) 1 0 0 D cy [.ref (xa 0), .int n0] (fun H => va_P D vwCl [((xa 0), .inr (9, [.ref (xa 1), .ref (xa 2), .ref (xa 3), .ref (xa 4), .ref (xa 5), .ref (xa 6), .ref (xa 7), .ref (xa 8), .ref (xa 9), .int 0, .ref (xa 11), .null, .int 0, .int (-1)])), ((xa 11), .inr (2, [.int 0, .int 0, .int 0, .int 0, .int 0, .int 0, .int 0, .int 0, .int 1, .int 10, .int 0, .int 0, .int 0, .int 0, .ref (xa 20), .ref (xa 21), .ref (xa 22), .ref (xa 23), .ref (xa 24), .ref (xa 25), .ref (xa 26)]))] H) (PuI (fun r => r = (-2))) noF := by
  refine MM.of (by decide) (Nat.le_of_ble_eq_true rfl) ?_
  intro p e s m below meth c C hP ls hl
  obtain ⟨hx, hb, hr, hml, hown, hts, hlocks, hK, hnm⟩ := C
  have hP : va_P D vwCl [((xa 0), .inr (9, [.ref (xa 1), .ref (xa 2), .ref (xa 3), .ref (xa 4), .ref (xa 5), .ref (xa 6), .ref (xa 7), .ref (xa 8), .ref (xa 9), .int 0, .ref (xa 11), .null, .int 0, .int (-1)])), ((xa 11), .inr (2, [.int 0, .int 0, .int 0, .int 0, .int 0, .int 0, .int 0, .int 0, .int 1, .int 10, .int 0, .int 0, .int 0, .int 0, .ref (xa 20), .ref (xa 21), .ref (xa 22), .ref (xa 23), .ref (xa 24), .ref (xa 25), .ref (xa 26)]))] s.heap := hP
  have hl : lv_has ls 3 [(0, .ref (xa 0)), (1, .int n0)] := hl
  refine lv_iload_n hx hb dX9_told_0 rfl (lv_at hl 1 rfl) ?_
  refine pu_calli (runS (As := [.int n0]) (rest := []) ⟨hx, hb, hml, hown, hts⟩ (f_isSlot l D cy n0 ) sS_X9_312 hK (hP.sub (ws' := []) [] rfl) ⟨Nat.le_of_ble_eq_true rfl, Nat.le_of_ble_eq_true rfl⟩ rfl hl.1 rfl (Nat.le_of_ble_eq_true rfl) dX9_told_1 ⟨Nat.le_of_ble_eq_true rfl, Nat.le_of_ble_eq_true rfl⟩) (fun r_1 hr_1 => ?_)
  rcases hr_1 with hr_1_0 | hr_1_1
  · skip
    obtain ⟨er_1, hr_1_0_f0, hr_1_0_f1⟩ := hr_1_0
    have hr_1_0_f0 : 0 ≤ n0.toInt := hr_1_0_f0
    have hr_1_0_f1 : n0.toInt ≤ 3 := hr_1_0_f1
    subst er_1
    refine W.eq (g2 := F0 m 4 ls [.int 1]) rfl ?_
    refine lv_if_eq (tgt := 17) hx hb dX9_told_4 (by decide) (fun c_2 => absurd c_2 (by decide)) (fun _ => ?_)
    refine lv_aload_n hx hb dX9_told_7 rfl (lv_at hl 0 rfl) ?_
    refine va_get (D := D) (ci := 9) (v := .ref (xa 11)) (C := RX9) (T := TX9) (N := 14) hx hb hts lay_X9 hown hK.1 hP 0 rfl rfl 10 (by decide) (hts _ fl_X9_67) (fun _ h9 => h9) rfl dX9_told_8 ?_
    refine va_get (D := D) (ci := 2) (v := .int 0) (C := RX2) (T := TX2) (N := 21) hx hb hts lay_X2 hown hK.1 hP 1 rfl rfl 1 (by decide) (hts _ fl_X9_155) (fun _ h9 => h9) rfl dX9_told_11 ?_
    refine lv_if_ne (tgt := 20) hx hb dX9_told_14 (by decide) (fun c_3 => absurd rfl c_3) (fun _ => ?_)
    refine lv_bipush (v := (-2)) hx hb dX9_told_17 (by decide) ?_
    exact ret_i hx hb hr hlocks ⟨rfl, _, rfl, rfl⟩ (fun _ h => absurd h List.not_mem_nil) (Nat.le_refl _) (Nat.le_refl _) dX9_told_19
  · skip
    obtain ⟨er_1, hr_1_1_f0⟩ := hr_1_1
    have hr_1_1_f0 : (n0.toInt < 0 ∨ 3 < n0.toInt) := hr_1_1_f0
    subst er_1
    refine W.eq (g2 := F0 m 4 ls [.int 0]) rfl ?_
    refine lv_if_eq (tgt := 17) hx hb dX9_told_4 (by decide) (fun _ => ?_) (fun c_4 => absurd (by decide) c_4)
    refine lv_bipush (v := (-2)) hx hb dX9_told_17 (by decide) ?_
    exact ret_i hx hb hr hlocks ⟨rfl, _, rfl, rfl⟩ (fun _ h => absurd h List.not_mem_nil) (Nat.le_refl _) (Nat.le_refl _) dX9_told_19
set_option maxHeartbeats 4000000 in
set_option maxRecDepth 100000 in
theorem f_X9_shut (l : Launch) (D : va_G) (cy : Nat → ClassId) (xa : Nat → Nat) (n0 : Int32) : MM l yX9_shut cX9_shut 2 (some .int) 1 0 0 D cy [.ref (xa 0), .int n0] (fun H => va_P D vwCl [((xa 0), .inr (9, [.ref (xa 1), .ref (xa 2), .ref (xa 3), .ref (xa 4), .ref (xa 5), .ref (xa 6), .ref (xa 7), .ref (xa 8), .ref (xa 9), .int 0, .ref (xa 11), .null, .int 0, .int (-1)])), ((xa 11), .inr (2, [.int 0, .int 0, .int 0, .int 0, .int 0, .int 0, .int 0, .int 0, .int 1, .int 10, .int 0, .int 0, .int 0, .int 0, .ref (xa 20), .ref (xa 21), .ref (xa 22), .ref (xa 23), .ref (xa 24), .ref (xa 25), .ref (xa 26)]))] H) (PuI (fun r => r = (-2))) noF := by
  refine MM.of (by decide) (Nat.le_of_ble_eq_true rfl) ?_
  intro p e s m below meth c C hP ls hl
  obtain ⟨hx, hb, hr, hml, hown, hts, hlocks, hK, hnm⟩ := C
  have hP : va_P D vwCl [((xa 0), .inr (9, [.ref (xa 1), .ref (xa 2), .ref (xa 3), .ref (xa 4), .ref (xa 5), .ref (xa 6), .ref (xa 7), .ref (xa 8), .ref (xa 9), .int 0, .ref (xa 11), .null, .int 0, .int (-1)])), ((xa 11), .inr (2, [.int 0, .int 0, .int 0, .int 0, .int 0, .int 0, .int 0, .int 0, .int 1, .int 10, .int 0, .int 0, .int 0, .int 0, .ref (xa 20), .ref (xa 21), .ref (xa 22), .ref (xa 23), .ref (xa 24), .ref (xa 25), .ref (xa 26)]))] s.heap := hP
  have hl : lv_has ls 2 [(0, .ref (xa 0)), (1, .int n0)] := hl
  refine lv_aload_n hx hb dX9_shut_0 rfl (lv_at hl 0 rfl) ?_
  refine va_get (D := D) (ci := 9) (v := .ref (xa 11)) (C := RX9) (T := TX9) (N := 14) hx hb hts lay_X9 hown hK.1 hP 0 rfl rfl 10 (by decide) (hts _ fl_X9_67) (fun _ h9 => h9) rfl dX9_shut_1 ?_
  refine lv_iload_n hx hb dX9_shut_4 rfl (lv_at hl 1 rfl) ?_
  refine pu_calli (runV (As := [.int n0]) (rest := []) ⟨hx, hb, hml, hown, hts⟩ (f_hasValley l D cy xa n0 ) sV_X9_99 hK (va_recv hK.1 hP (ci := 2) (q0 := 1) rfl rfl) (hP.sub (ws' := [((xa 11), .inr (2, [.int 0, .int 0, .int 0, .int 0, .int 0, .int 0, .int 0, .int 0, .int 1, .int 10, .int 0, .int 0, .int 0, .int 0, .ref (xa 20), .ref (xa 21), .ref (xa 22), .ref (xa 23), .ref (xa 24), .ref (xa 25), .ref (xa 26)]))]) [1] rfl) ⟨Nat.le_of_ble_eq_true rfl, Nat.le_of_ble_eq_true rfl⟩ rfl hl.1 rfl (Nat.le_of_ble_eq_true rfl) dX9_shut_5 ⟨Nat.le_of_ble_eq_true rfl, Nat.le_of_ble_eq_true rfl⟩) (fun r_1 hr_1 => ?_)
  have er_1 := hr_1
  subst er_1
  refine W.eq (g2 := F0 m 8 ls [.int 0]) rfl ?_
  refine lv_if_ne (tgt := 14) hx hb dX9_shut_8 (by decide) (fun c_2 => absurd rfl c_2) (fun _ => ?_)
  refine lv_bipush (v := (-2)) hx hb dX9_shut_11 (by decide) ?_
  exact ret_i hx hb hr hlocks ⟨rfl, _, rfl, rfl⟩ (fun _ h => absurd h List.not_mem_nil) (Nat.le_refl _) (Nat.le_refl _) dX9_shut_13
set_option maxHeartbeats 4000000 in
set_option maxRecDepth 100000 in
theorem f_X9_lacks (l : Launch) (D : va_G) (cy : Nat → ClassId) (xa : Nat → Nat) (n0 : Int32) (n1 : Int32) (n2 : Int32) (n3 : Int32) : MM l yX9_lacks cX9_lacks 7 (some .int) 2 0 0 D cy [.ref (xa 0), .int n0, .int n1, .int n2, .int n3] (fun H => va_P D vwCl [((xa 0), .inr (9, [.ref (xa 1), .ref (xa 2), .ref (xa 3), .ref (xa 4), .ref (xa 5), .ref (xa 6), .ref (xa 7), .ref (xa 8), .ref (xa 9), .int 0, .ref (xa 11), .null, .int 0, .int (-1)])), ((xa 11), .inr (2, [.int 0, .int 0, .int 0, .int 0, .int 0, .int 0, .int 0, .int 0, .int 1, .int 10, .int 0, .int 0, .int 0, .int 0, .ref (xa 20), .ref (xa 21), .ref (xa 22), .ref (xa 23), .ref (xa 24), .ref (xa 25), .ref (xa 26)]))] H) (PuI (fun r => r = (-2))) noF := by
  refine MM.of (by decide) (Nat.le_of_ble_eq_true rfl) ?_
  intro p e s m below meth c C hP ls hl
  obtain ⟨hx, hb, hr, hml, hown, hts, hlocks, hK, hnm⟩ := C
  have hP : va_P D vwCl [((xa 0), .inr (9, [.ref (xa 1), .ref (xa 2), .ref (xa 3), .ref (xa 4), .ref (xa 5), .ref (xa 6), .ref (xa 7), .ref (xa 8), .ref (xa 9), .int 0, .ref (xa 11), .null, .int 0, .int (-1)])), ((xa 11), .inr (2, [.int 0, .int 0, .int 0, .int 0, .int 0, .int 0, .int 0, .int 0, .int 1, .int 10, .int 0, .int 0, .int 0, .int 0, .ref (xa 20), .ref (xa 21), .ref (xa 22), .ref (xa 23), .ref (xa 24), .ref (xa 25), .ref (xa 26)]))] s.heap := hP
  have hl : lv_has ls 7 [(0, .ref (xa 0)), (1, .int n0), (2, .int n1), (3, .int n2), (4, .int n3)] := hl
  refine lv_aload_n hx hb dX9_lacks_0 rfl (lv_at hl 0 rfl) ?_
  refine va_get (D := D) (ci := 9) (v := .ref (xa 11)) (C := RX9) (T := TX9) (N := 14) hx hb hts lay_X9 hown hK.1 hP 0 rfl rfl 10 (by decide) (hts _ fl_X9_67) (fun _ h9 => h9) rfl dX9_lacks_1 ?_
  refine lv_iload_n hx hb dX9_lacks_4 rfl (lv_at hl 1 rfl) ?_
  refine lv_iload_n hx hb dX9_lacks_5 rfl (lv_at hl 2 rfl) ?_
  refine pu_calli (runV (As := [.int n0, .int n1]) (rest := []) ⟨hx, hb, hml, hown, hts⟩ (f_hasStore l D cy xa n0 n1 ) sV_X9_160 hK (va_recv hK.1 hP (ci := 2) (q0 := 1) rfl rfl) (hP.sub (ws' := [((xa 11), .inr (2, [.int 0, .int 0, .int 0, .int 0, .int 0, .int 0, .int 0, .int 0, .int 1, .int 10, .int 0, .int 0, .int 0, .int 0, .ref (xa 20), .ref (xa 21), .ref (xa 22), .ref (xa 23), .ref (xa 24), .ref (xa 25), .ref (xa 26)]))]) [1] rfl) ⟨Nat.le_of_ble_eq_true rfl, Nat.le_of_ble_eq_true rfl⟩ rfl hl.1 rfl (Nat.le_of_ble_eq_true rfl) dX9_lacks_6 ⟨Nat.le_of_ble_eq_true rfl, Nat.le_of_ble_eq_true rfl⟩) (fun r_1 hr_1 => ?_)
  have er_1 := hr_1
  subst er_1
  refine W.eq (g2 := F0 m 9 ls [.int 0]) rfl ?_
  refine lv_if_eq (tgt := 30) hx hb dX9_lacks_9 (by decide) (fun _ => ?_) (fun c_2 => absurd (by decide) c_2)
  refine lv_bipush (v := (-2)) hx hb dX9_lacks_30 (by decide) ?_
  exact ret_i hx hb hr hlocks ⟨rfl, _, rfl, rfl⟩ (fun _ h => absurd h List.not_mem_nil) (Nat.le_refl _) (Nat.le_refl _) dX9_lacks_32
set_option maxHeartbeats 4000000 in
set_option maxRecDepth 100000 in
theorem f_X9_judge (l : Launch) (D : va_G) (cy : Nat → ClassId) (xa : Nat → Nat) (n0 : Int32) (n1 : Int32) : MM l yX9_judge cX9_judge 4 (some .int) 1 0 0 D cy [.ref (xa 0), .int n0, .int n1] (fun H => va_P D vwCl [((xa 0), .inr (9, [.ref (xa 1), .ref (xa 2), .ref (xa 3), .ref (xa 4), .ref (xa 5), .ref (xa 6), .ref (xa 7), .ref (xa 8), .ref (xa 9), .int 0, .ref (xa 11), .null, .int 0, .int (-1)])), ((xa 11), .inr (2, [.int 0, .int 0, .int 0, .int 0, .int 0, .int 0, .int 0, .int 0, .int 1, .int 10, .int 0, .int 0, .int 0, .int 0, .ref (xa 20), .ref (xa 21), .ref (xa 22), .ref (xa 23), .ref (xa 24), .ref (xa 25), .ref (xa 26)]))] H) (PuI (fun r => r = (-2))) noF := by
  refine MM.of (by decide) (Nat.le_of_ble_eq_true rfl) ?_
  intro p e s m below meth c C hP ls hl
  obtain ⟨hx, hb, hr, hml, hown, hts, hlocks, hK, hnm⟩ := C
  have hP : va_P D vwCl [((xa 0), .inr (9, [.ref (xa 1), .ref (xa 2), .ref (xa 3), .ref (xa 4), .ref (xa 5), .ref (xa 6), .ref (xa 7), .ref (xa 8), .ref (xa 9), .int 0, .ref (xa 11), .null, .int 0, .int (-1)])), ((xa 11), .inr (2, [.int 0, .int 0, .int 0, .int 0, .int 0, .int 0, .int 0, .int 0, .int 1, .int 10, .int 0, .int 0, .int 0, .int 0, .ref (xa 20), .ref (xa 21), .ref (xa 22), .ref (xa 23), .ref (xa 24), .ref (xa 25), .ref (xa 26)]))] s.heap := hP
  have hl : lv_has ls 4 [(0, .ref (xa 0)), (1, .int n0), (2, .int n1)] := hl
  refine lv_iload_n hx hb dX9_judge_0 rfl (lv_at hl 1 rfl) ?_
  refine pu_calli (runS (As := [.int n0]) (rest := []) ⟨hx, hb, hml, hown, hts⟩ (f_isSlot l D cy n0 ) sS_X9_312 hK (hP.sub (ws' := []) [] rfl) ⟨Nat.le_of_ble_eq_true rfl, Nat.le_of_ble_eq_true rfl⟩ rfl hl.1 rfl (Nat.le_of_ble_eq_true rfl) dX9_judge_1 ⟨Nat.le_of_ble_eq_true rfl, Nat.le_of_ble_eq_true rfl⟩) (fun r_1 hr_1 => ?_)
  rcases hr_1 with hr_1_0 | hr_1_1
  · skip
    obtain ⟨er_1, hr_1_0_f0, hr_1_0_f1⟩ := hr_1_0
    have hr_1_0_f0 : 0 ≤ n0.toInt := hr_1_0_f0
    have hr_1_0_f1 : n0.toInt ≤ 3 := hr_1_0_f1
    subst er_1
    refine W.eq (g2 := F0 m 4 ls [.int 1]) rfl ?_
    refine lv_if_eq (tgt := 18) hx hb dX9_judge_4 (by decide) (fun c_2 => absurd c_2 (by decide)) (fun _ => ?_)
    refine lv_aload_n hx hb dX9_judge_7 rfl (lv_at hl 0 rfl) ?_
    refine va_get (D := D) (ci := 9) (v := .ref (xa 11)) (C := RX9) (T := TX9) (N := 14) hx hb hts lay_X9 hown hK.1 hP 0 rfl rfl 10 (by decide) (hts _ fl_X9_67) (fun _ h9 => h9) rfl dX9_judge_8 ?_
    refine lv_iload_n hx hb dX9_judge_11 rfl (lv_at hl 2 rfl) ?_
    refine pu_calli (runV (As := [.int n1]) (rest := []) ⟨hx, hb, hml, hown, hts⟩ (f_hasValley l D cy xa n1 ) sV_X9_99 hK (va_recv hK.1 hP (ci := 2) (q0 := 1) rfl rfl) (hP.sub (ws' := [((xa 11), .inr (2, [.int 0, .int 0, .int 0, .int 0, .int 0, .int 0, .int 0, .int 0, .int 1, .int 10, .int 0, .int 0, .int 0, .int 0, .ref (xa 20), .ref (xa 21), .ref (xa 22), .ref (xa 23), .ref (xa 24), .ref (xa 25), .ref (xa 26)]))]) [1] rfl) ⟨Nat.le_of_ble_eq_true rfl, Nat.le_of_ble_eq_true rfl⟩ rfl hl.1 rfl (Nat.le_of_ble_eq_true rfl) dX9_judge_12 ⟨Nat.le_of_ble_eq_true rfl, Nat.le_of_ble_eq_true rfl⟩) (fun r_3 hr_3 => ?_)
    have er_3 := hr_3
    subst er_3
    refine W.eq (g2 := F0 m 15 ls [.int 0]) rfl ?_
    refine lv_if_ne (tgt := 21) hx hb dX9_judge_15 (by decide) (fun c_4 => absurd rfl c_4) (fun _ => ?_)
    refine lv_bipush (v := (-2)) hx hb dX9_judge_18 (by decide) ?_
    exact ret_i hx hb hr hlocks ⟨rfl, _, rfl, rfl⟩ (fun _ h => absurd h List.not_mem_nil) (Nat.le_refl _) (Nat.le_refl _) dX9_judge_20
  · skip
    obtain ⟨er_1, hr_1_1_f0⟩ := hr_1_1
    have hr_1_1_f0 : (n0.toInt < 0 ∨ 3 < n0.toInt) := hr_1_1_f0
    subst er_1
    refine W.eq (g2 := F0 m 4 ls [.int 0]) rfl ?_
    refine lv_if_eq (tgt := 18) hx hb dX9_judge_4 (by decide) (fun _ => ?_) (fun c_5 => absurd (by decide) c_5)
    refine lv_bipush (v := (-2)) hx hb dX9_judge_18 (by decide) ?_
    exact ret_i hx hb hr hlocks ⟨rfl, _, rfl, rfl⟩ (fun _ h => absurd h List.not_mem_nil) (Nat.le_refl _) (Nat.le_refl _) dX9_judge_20
set_option maxHeartbeats 4000000 in
set_option maxRecDepth 100000 in
theorem f_X9_paid (l : Launch) (D : va_G) (cy : Nat → ClassId) (xa : Nat → Nat) (n0 : Int32) (n1 : Int32) (n2 : Int32) : MM l yX9_paid cX9_paid 15 (some .long) 2 0 0 D cy [.ref (xa 0), .int n0, .int n1, .int n2] (fun H => va_P D vwCl [((xa 0), .inr (9, [.ref (xa 1), .ref (xa 2), .ref (xa 3), .ref (xa 4), .ref (xa 5), .ref (xa 6), .ref (xa 7), .ref (xa 8), .ref (xa 9), .int 0, .ref (xa 11), .null, .int 0, .int (-1)])), ((xa 11), .inr (2, [.int 0, .int 0, .int 0, .int 0, .int 0, .int 0, .int 0, .int 0, .int 1, .int 10, .int 0, .int 0, .int 0, .int 0, .ref (xa 20), .ref (xa 21), .ref (xa 22), .ref (xa 23), .ref (xa 24), .ref (xa 25), .ref (xa 26)]))] H) (PuL (fun r => r = (-1000000000000))) noF := by
  refine MM.of (by decide) (Nat.le_of_ble_eq_true rfl) ?_
  intro p e s m below meth c C hP ls hl
  obtain ⟨hx, hb, hr, hml, hown, hts, hlocks, hK, hnm⟩ := C
  have hP : va_P D vwCl [((xa 0), .inr (9, [.ref (xa 1), .ref (xa 2), .ref (xa 3), .ref (xa 4), .ref (xa 5), .ref (xa 6), .ref (xa 7), .ref (xa 8), .ref (xa 9), .int 0, .ref (xa 11), .null, .int 0, .int (-1)])), ((xa 11), .inr (2, [.int 0, .int 0, .int 0, .int 0, .int 0, .int 0, .int 0, .int 0, .int 1, .int 10, .int 0, .int 0, .int 0, .int 0, .ref (xa 20), .ref (xa 21), .ref (xa 22), .ref (xa 23), .ref (xa 24), .ref (xa 25), .ref (xa 26)]))] s.heap := hP
  have hl : lv_has ls 15 [(0, .ref (xa 0)), (1, .int n0), (2, .int n1), (3, .int n2)] := hl
  refine lv_iload_n hx hb dX9_paid_0 rfl (lv_at hl 1 rfl) ?_
  refine pu_calli (runS (As := [.int n0]) (rest := []) ⟨hx, hb, hml, hown, hts⟩ (f_isSlot l D cy n0 ) sS_X9_312 hK (hP.sub (ws' := []) [] rfl) ⟨Nat.le_of_ble_eq_true rfl, Nat.le_of_ble_eq_true rfl⟩ rfl hl.1 rfl (Nat.le_of_ble_eq_true rfl) dX9_paid_1 ⟨Nat.le_of_ble_eq_true rfl, Nat.le_of_ble_eq_true rfl⟩) (fun r_1 hr_1 => ?_)
  rcases hr_1 with hr_1_0 | hr_1_1
  · skip
    obtain ⟨er_1, hr_1_0_f0, hr_1_0_f1⟩ := hr_1_0
    have hr_1_0_f0 : 0 ≤ n0.toInt := hr_1_0_f0
    have hr_1_0_f1 : n0.toInt ≤ 3 := hr_1_0_f1
    subst er_1
    refine W.eq (g2 := F0 m 4 ls [.int 1]) rfl ?_
    refine lv_if_eq (tgt := 26) hx hb dX9_paid_4 (by decide) (fun c_2 => absurd c_2 (by decide)) (fun _ => ?_)
    refine lv_aload_n hx hb dX9_paid_7 rfl (lv_at hl 0 rfl) ?_
    refine va_get (D := D) (ci := 9) (v := .ref (xa 11)) (C := RX9) (T := TX9) (N := 14) hx hb hts lay_X9 hown hK.1 hP 0 rfl rfl 10 (by decide) (hts _ fl_X9_67) (fun _ h9 => h9) rfl dX9_paid_8 ?_
    refine lv_iload_n hx hb dX9_paid_11 rfl (lv_at hl 2 rfl) ?_
    refine lv_iload_n hx hb dX9_paid_12 rfl (lv_at hl 3 rfl) ?_
    refine pu_calli (runV (As := [.int n1, .int n2]) (rest := []) ⟨hx, hb, hml, hown, hts⟩ (f_hasStore l D cy xa n1 n2 ) sV_X9_160 hK (va_recv hK.1 hP (ci := 2) (q0 := 1) rfl rfl) (hP.sub (ws' := [((xa 11), .inr (2, [.int 0, .int 0, .int 0, .int 0, .int 0, .int 0, .int 0, .int 0, .int 1, .int 10, .int 0, .int 0, .int 0, .int 0, .ref (xa 20), .ref (xa 21), .ref (xa 22), .ref (xa 23), .ref (xa 24), .ref (xa 25), .ref (xa 26)]))]) [1] rfl) ⟨Nat.le_of_ble_eq_true rfl, Nat.le_of_ble_eq_true rfl⟩ rfl hl.1 rfl (Nat.le_of_ble_eq_true rfl) dX9_paid_13 ⟨Nat.le_of_ble_eq_true rfl, Nat.le_of_ble_eq_true rfl⟩) (fun r_3 hr_3 => ?_)
    have er_3 := hr_3
    subst er_3
    refine W.eq (g2 := F0 m 16 ls [.int 0]) rfl ?_
    refine lv_if_eq (tgt := 26) hx hb dX9_paid_16 (by decide) (fun _ => ?_) (fun c_4 => absurd (by decide) c_4)
    refine lv_ldc2 (v := (-1000000000000)) hx hb hown (hts _ kl_X9_176) dX9_paid_26 ?_
    exact ret_l hx hb hr hlocks ⟨rfl, _, rfl, rfl⟩ (fun _ h => absurd h List.not_mem_nil) (Nat.le_refl _) (Nat.le_refl _) dX9_paid_29
  · skip
    obtain ⟨er_1, hr_1_1_f0⟩ := hr_1_1
    have hr_1_1_f0 : (n0.toInt < 0 ∨ 3 < n0.toInt) := hr_1_1_f0
    subst er_1
    refine W.eq (g2 := F0 m 4 ls [.int 0]) rfl ?_
    refine lv_if_eq (tgt := 26) hx hb dX9_paid_4 (by decide) (fun _ => ?_) (fun c_5 => absurd (by decide) c_5)
    refine lv_ldc2 (v := (-1000000000000)) hx hb hown (hts _ kl_X9_176) dX9_paid_26 ?_
    exact ret_l hx hb hr hlocks ⟨rfl, _, rfl, rfl⟩ (fun _ h => absurd h List.not_mem_nil) (Nat.le_refl _) (Nat.le_refl _) dX9_paid_29
set_option maxHeartbeats 4000000 in
set_option maxRecDepth 100000 in
theorem f_X9_years (l : Launch) (D : va_G) (cy : Nat → ClassId) (xa : Nat → Nat) (n0 : Int32) (n1 : Int32) (n2 : Int32) (n3 : Int32) (n4 : Int32) (n5 : Int32) : MM l yX9_years cX9_years 11 (some .int) 2 0 0 D cy [.ref (xa 0), .int n0, .int n1, .int n2, .int n3, .int n4, .int n5] (fun H => va_P D vwCl [((xa 0), .inr (9, [.ref (xa 1), .ref (xa 2), .ref (xa 3), .ref (xa 4), .ref (xa 5), .ref (xa 6), .ref (xa 7), .ref (xa 8), .ref (xa 9), .int 0, .ref (xa 11), .null, .int 0, .int (-1)])), ((xa 11), .inr (2, [.int 0, .int 0, .int 0, .int 0, .int 0, .int 0, .int 0, .int 0, .int 1, .int 10, .int 0, .int 0, .int 0, .int 0, .ref (xa 20), .ref (xa 21), .ref (xa 22), .ref (xa 23), .ref (xa 24), .ref (xa 25), .ref (xa 26)]))] H) (PuI (fun r => r = (-2))) noF := by
  refine MM.of (by decide) (Nat.le_of_ble_eq_true rfl) ?_
  intro p e s m below meth c C hP ls hl
  obtain ⟨hx, hb, hr, hml, hown, hts, hlocks, hK, hnm⟩ := C
  have hP : va_P D vwCl [((xa 0), .inr (9, [.ref (xa 1), .ref (xa 2), .ref (xa 3), .ref (xa 4), .ref (xa 5), .ref (xa 6), .ref (xa 7), .ref (xa 8), .ref (xa 9), .int 0, .ref (xa 11), .null, .int 0, .int (-1)])), ((xa 11), .inr (2, [.int 0, .int 0, .int 0, .int 0, .int 0, .int 0, .int 0, .int 0, .int 1, .int 10, .int 0, .int 0, .int 0, .int 0, .ref (xa 20), .ref (xa 21), .ref (xa 22), .ref (xa 23), .ref (xa 24), .ref (xa 25), .ref (xa 26)]))] s.heap := hP
  have hl : lv_has ls 11 [(0, .ref (xa 0)), (1, .int n0), (2, .int n1), (3, .int n2), (4, .int n3), (5, .int n4), (6, .int n5)] := hl
  refine lv_iload_n hx hb dX9_years_0 rfl (lv_at hl 1 rfl) ?_
  refine pu_calli (runS (As := [.int n0]) (rest := []) ⟨hx, hb, hml, hown, hts⟩ (f_isSeed l D cy n0 ) sS_X9_301 hK (hP.sub (ws' := []) [] rfl) ⟨Nat.le_of_ble_eq_true rfl, Nat.le_of_ble_eq_true rfl⟩ rfl hl.1 rfl (Nat.le_of_ble_eq_true rfl) dX9_years_1 ⟨Nat.le_of_ble_eq_true rfl, Nat.le_of_ble_eq_true rfl⟩) (fun r_1 hr_1 => ?_)
  rcases hr_1 with hr_1_0 | hr_1_1
  · skip
    obtain ⟨er_1, hr_1_0_f0, hr_1_0_f1⟩ := hr_1_0
    have hr_1_0_f0 : 0 ≤ n0.toInt := hr_1_0_f0
    have hr_1_0_f1 : n0.toInt ≤ 2000000000 := hr_1_0_f1
    subst er_1
    refine W.eq (g2 := F0 m 4 ls [.int 1]) rfl ?_
    refine lv_if_eq (tgt := 29) hx hb dX9_years_4 (by decide) (fun c_2 => absurd c_2 (by decide)) (fun _ => ?_)
    refine lv_iload_n hx hb dX9_years_7 rfl (lv_at hl 2 rfl) ?_
    refine lv_iconst (v := 1) hx hb dX9_years_8 (by decide) ?_
    refine lv_icmp_lt (tgt := 29) hx hb dX9_years_9 (by decide) (fun c_3 => ?_) (fun c_3 => ?_)
    · skip
      have tc_3 : n1.toInt < 1 := (fa_lt _ _).mp c_3
      refine lv_bipush (v := (-2)) hx hb dX9_years_29 (by decide) ?_
      exact ret_i hx hb hr hlocks ⟨rfl, _, rfl, rfl⟩ (fun _ h => absurd h List.not_mem_nil) (Nat.le_refl _) (Nat.le_refl _) dX9_years_31
    · skip
      have tc_3 : ¬ n1.toInt < 1 := fun h => c_3 ((fa_lt _ _).mpr h)
      refine lv_iload_n hx hb dX9_years_12 rfl (lv_at hl 2 rfl) ?_
      refine lv_bipush (v := 100) hx hb dX9_years_13 (by decide) ?_
      refine lv_icmp_gt (tgt := 29) hx hb dX9_years_15 (by decide) (fun c_4 => ?_) (fun c_4 => ?_)
      · skip
        have tc_4 : 100 < n1.toInt := (fa_lt _ _).mp c_4
        refine lv_bipush (v := (-2)) hx hb dX9_years_29 (by decide) ?_
        exact ret_i hx hb hr hlocks ⟨rfl, _, rfl, rfl⟩ (fun _ h => absurd h List.not_mem_nil) (Nat.le_refl _) (Nat.le_refl _) dX9_years_31
      · skip
        have tc_4 : ¬ 100 < n1.toInt := fun h => c_4 ((fa_lt _ _).mpr h)
        refine lv_iload hx hb dX9_years_18 (lv_at hl 6 rfl) ?_
        refine lv_if_lt (tgt := 29) hx hb dX9_years_20 (by decide) (fun c_5 => ?_) (fun c_5 => ?_)
        · skip
          have tc_5 : n5.toInt < 0 := (fa_lt _ _).mp c_5
          refine lv_bipush (v := (-2)) hx hb dX9_years_29 (by decide) ?_
          exact ret_i hx hb hr hlocks ⟨rfl, _, rfl, rfl⟩ (fun _ h => absurd h List.not_mem_nil) (Nat.le_refl _) (Nat.le_refl _) dX9_years_31
        · skip
          have tc_5 : ¬ n5.toInt < 0 := fun h => c_5 ((fa_lt _ _).mpr h)
          refine lv_iload hx hb dX9_years_23 (lv_at hl 6 rfl) ?_
          refine lv_iconst (v := 3) hx hb dX9_years_25 (by decide) ?_
          refine lv_icmp_le (tgt := 32) hx hb dX9_years_26 (by decide) (fun c_6 => ?_) (fun c_6 => ?_)
          · skip
            have tc_6 : n5.toInt ≤ 3 := (fa_le _ _).mp c_6
            refine lv_aload_n hx hb dX9_years_32 rfl (lv_at hl 0 rfl) ?_
            refine va_get (D := D) (ci := 9) (v := .ref (xa 11)) (C := RX9) (T := TX9) (N := 14) hx hb hts lay_X9 hown hK.1 hP 0 rfl rfl 10 (by decide) (hts _ fl_X9_67) (fun _ h9 => h9) rfl dX9_years_33 ?_
            refine lv_iload_n hx hb dX9_years_36 rfl (lv_at hl 3 rfl) ?_
            refine lv_iload hx hb dX9_years_37 (lv_at hl 4 rfl) ?_
            refine pu_calli (runV (As := [.int n2, .int n3]) (rest := []) ⟨hx, hb, hml, hown, hts⟩ (f_hasStore l D cy xa n2 n3 ) sV_X9_160 hK (va_recv hK.1 hP (ci := 2) (q0 := 1) rfl rfl) (hP.sub (ws' := [((xa 11), .inr (2, [.int 0, .int 0, .int 0, .int 0, .int 0, .int 0, .int 0, .int 0, .int 1, .int 10, .int 0, .int 0, .int 0, .int 0, .ref (xa 20), .ref (xa 21), .ref (xa 22), .ref (xa 23), .ref (xa 24), .ref (xa 25), .ref (xa 26)]))]) [1] rfl) ⟨Nat.le_of_ble_eq_true rfl, Nat.le_of_ble_eq_true rfl⟩ rfl hl.1 rfl (Nat.le_of_ble_eq_true rfl) dX9_years_39 ⟨Nat.le_of_ble_eq_true rfl, Nat.le_of_ble_eq_true rfl⟩) (fun r_7 hr_7 => ?_)
            have er_7 := hr_7
            subst er_7
            refine W.eq (g2 := F0 m 42 ls [.int 0]) rfl ?_
            refine lv_if_eq (tgt := 53) hx hb dX9_years_42 (by decide) (fun _ => ?_) (fun c_8 => absurd (by decide) c_8)
            refine lv_bipush (v := (-2)) hx hb dX9_years_53 (by decide) ?_
            exact ret_i hx hb hr hlocks ⟨rfl, _, rfl, rfl⟩ (fun _ h => absurd h List.not_mem_nil) (Nat.le_refl _) (Nat.le_refl _) dX9_years_55
          · skip
            have tc_6 : ¬ n5.toInt ≤ 3 := fun h => c_6 ((fa_le _ _).mpr h)
            refine lv_bipush (v := (-2)) hx hb dX9_years_29 (by decide) ?_
            exact ret_i hx hb hr hlocks ⟨rfl, _, rfl, rfl⟩ (fun _ h => absurd h List.not_mem_nil) (Nat.le_refl _) (Nat.le_refl _) dX9_years_31
  · skip
    obtain ⟨er_1, hr_1_1_f0⟩ := hr_1_1
    have hr_1_1_f0 : (n0.toInt < 0 ∨ 2000000000 < n0.toInt) := hr_1_1_f0
    subst er_1
    refine W.eq (g2 := F0 m 4 ls [.int 0]) rfl ?_
    refine lv_if_eq (tgt := 29) hx hb dX9_years_4 (by decide) (fun _ => ?_) (fun c_9 => absurd (by decide) c_9)
    refine lv_bipush (v := (-2)) hx hb dX9_years_29 (by decide) ?_
    exact ret_i hx hb hr hlocks ⟨rfl, _, rfl, rfl⟩ (fun _ h => absurd h List.not_mem_nil) (Nat.le_refl _) (Nat.le_refl _) dX9_years_31
