theorem dX9_fork_0 : decode cX9_fork 0 = .ok (.aload_n 0, 1) := by decide +kernel
theorem dX9_fork_1 : decode cX9_fork 1 = .ok (.getfield 67, 3) := by decide +kernel
theorem dX9_fork_4 : decode cX9_fork 4 = .ok (.iload_n 1, 1) := by decide +kernel
theorem dX9_fork_5 : decode cX9_fork 5 = .ok (.iload_n 2, 1) := by decide +kernel
theorem dX9_fork_6 : decode cX9_fork 6 = .ok (.invokevirtual 125, 3) := by decide +kernel
theorem dX9_fork_9 : decode cX9_fork 9 = .ok (.ifCond .eq 22, 3) := by decide +kernel
theorem dX9_fork_12 : decode cX9_fork 12 = .ok (.aload_n 0, 1) := by decide +kernel
theorem dX9_fork_13 : decode cX9_fork 13 = .ok (.getfield 67, 3) := by decide +kernel
theorem dX9_fork_16 : decode cX9_fork 16 = .ok (.iload_n 3, 1) := by decide +kernel
theorem dX9_fork_17 : decode cX9_fork 17 = .ok (.invokevirtual 242, 3) := by decide +kernel
theorem dX9_fork_20 : decode cX9_fork 20 = .ok (.ifCond .eq 11, 3) := by decide +kernel
theorem dX9_fork_23 : decode cX9_fork 23 = .ok (.iload 4, 2) := by decide +kernel
theorem dX9_fork_25 : decode cX9_fork 25 = .ok (.invokestatic 167, 3) := by decide +kernel
theorem dX9_fork_28 : decode cX9_fork 28 = .ok (.ifCond .ne 7, 3) := by decide +kernel
theorem dX9_fork_35 : decode cX9_fork 35 = .ok (.aload_n 0, 1) := by decide +kernel
theorem dX9_fork_36 : decode cX9_fork 36 = .ok (.getfield 23, 3) := by decide +kernel
theorem dX9_fork_39 : decode cX9_fork 39 = .ok (.aload_n 0, 1) := by decide +kernel
theorem dX9_fork_40 : decode cX9_fork 40 = .ok (.getfield 67, 3) := by decide +kernel
theorem dX9_fork_43 : decode cX9_fork 43 = .ok (.iload_n 1, 1) := by decide +kernel
theorem dX9_fork_44 : decode cX9_fork 44 = .ok (.iload_n 2, 1) := by decide +kernel
theorem dX9_fork_45 : decode cX9_fork 45 = .ok (.iload_n 3, 1) := by decide +kernel
theorem dX9_fork_46 : decode cX9_fork 46 = .ok (.invokevirtual 245, 3) := by decide +kernel
theorem dX9_fork_49 : decode cX9_fork 49 = .ok (.aload_n 0, 1) := by decide +kernel
theorem dX9_fork_50 : decode cX9_fork 50 = .ok (.getfield 23, 3) := by decide +kernel
theorem dX9_fork_53 : decode cX9_fork 53 = .ok (.iload 4, 2) := by decide +kernel
theorem dX9_fork_55 : decode cX9_fork 55 = .ok (.invokevirtual 173, 3) := by decide +kernel
theorem dX9_fork_58 : decode cX9_fork 58 = .ok (.lreturn, 1) := by decide +kernel
theorem dX9_fork_31 : decode cX9_fork 31 = .ok (.ldc2_w 106, 3) := by decide +kernel
theorem dX9_fork_34 : decode cX9_fork 34 = .ok (.lreturn, 1) := by decide +kernel
theorem dX9_middle_0 : decode cX9_middle 0 = .ok (.aload_n 0, 1) := by decide +kernel
theorem dX9_middle_1 : decode cX9_middle 1 = .ok (.getfield 67, 3) := by decide +kernel
theorem dX9_middle_4 : decode cX9_middle 4 = .ok (.iload_n 1, 1) := by decide +kernel
theorem dX9_middle_5 : decode cX9_middle 5 = .ok (.iload_n 2, 1) := by decide +kernel
theorem dX9_middle_6 : decode cX9_middle 6 = .ok (.invokevirtual 125, 3) := by decide +kernel
theorem dX9_middle_9 : decode cX9_middle 9 = .ok (.ifCond .eq 14, 3) := by decide +kernel
theorem dX9_middle_12 : decode cX9_middle 12 = .ok (.aload_n 0, 1) := by decide +kernel
theorem dX9_middle_13 : decode cX9_middle 13 = .ok (.getfield 67, 3) := by decide +kernel
theorem dX9_middle_16 : decode cX9_middle 16 = .ok (.iload_n 3, 1) := by decide +kernel
theorem dX9_middle_17 : decode cX9_middle 17 = .ok (.invokevirtual 242, 3) := by decide +kernel
theorem dX9_middle_20 : decode cX9_middle 20 = .ok (.ifCond .ne 6, 3) := by decide +kernel
theorem dX9_middle_26 : decode cX9_middle 26 = .ok (.aload_n 0, 1) := by decide +kernel
theorem dX9_middle_27 : decode cX9_middle 27 = .ok (.getfield 23, 3) := by decide +kernel
theorem dX9_middle_30 : decode cX9_middle 30 = .ok (.aload_n 0, 1) := by decide +kernel
theorem dX9_middle_31 : decode cX9_middle 31 = .ok (.getfield 67, 3) := by decide +kernel
theorem dX9_middle_34 : decode cX9_middle 34 = .ok (.iload_n 1, 1) := by decide +kernel
theorem dX9_middle_35 : decode cX9_middle 35 = .ok (.iload_n 2, 1) := by decide +kernel
theorem dX9_middle_36 : decode cX9_middle 36 = .ok (.iload_n 3, 1) := by decide +kernel
theorem dX9_middle_37 : decode cX9_middle 37 = .ok (.invokevirtual 245, 3) := by decide +kernel
theorem dX9_middle_40 : decode cX9_middle 40 = .ok (.aload_n 0, 1) := by decide +kernel
theorem dX9_middle_41 : decode cX9_middle 41 = .ok (.getfield 23, 3) := by decide +kernel
theorem dX9_middle_44 : decode cX9_middle 44 = .ok (.iconst 0, 1) := by decide +kernel
theorem dX9_middle_45 : decode cX9_middle 45 = .ok (.invokevirtual 181, 3) := by decide +kernel
theorem dX9_middle_48 : decode cX9_middle 48 = .ok (.ireturn, 1) := by decide +kernel
theorem dX9_middle_23 : decode cX9_middle 23 = .ok (.bipush (-2), 2) := by decide +kernel
theorem dX9_middle_25 : decode cX9_middle 25 = .ok (.ireturn, 1) := by decide +kernel
theorem dX9_shares_0 : decode cX9_shares 0 = .ok (.aload_n 0, 1) := by decide +kernel
theorem dX9_shares_1 : decode cX9_shares 1 = .ok (.getfield 67, 3) := by decide +kernel
theorem dX9_shares_4 : decode cX9_shares 4 = .ok (.iload_n 1, 1) := by decide +kernel
theorem dX9_shares_5 : decode cX9_shares 5 = .ok (.iload_n 2, 1) := by decide +kernel
theorem dX9_shares_6 : decode cX9_shares 6 = .ok (.invokevirtual 125, 3) := by decide +kernel
theorem dX9_shares_9 : decode cX9_shares 9 = .ok (.ifCond .eq 14, 3) := by decide +kernel
theorem dX9_shares_12 : decode cX9_shares 12 = .ok (.aload_n 0, 1) := by decide +kernel
theorem dX9_shares_13 : decode cX9_shares 13 = .ok (.getfield 67, 3) := by decide +kernel
theorem dX9_shares_16 : decode cX9_shares 16 = .ok (.iload_n 3, 1) := by decide +kernel
theorem dX9_shares_17 : decode cX9_shares 17 = .ok (.invokevirtual 242, 3) := by decide +kernel
theorem dX9_shares_20 : decode cX9_shares 20 = .ok (.ifCond .ne 7, 3) := by decide +kernel
theorem dX9_shares_27 : decode cX9_shares 27 = .ok (.aload_n 0, 1) := by decide +kernel
theorem dX9_shares_28 : decode cX9_shares 28 = .ok (.getfield 23, 3) := by decide +kernel
theorem dX9_shares_31 : decode cX9_shares 31 = .ok (.aload_n 0, 1) := by decide +kernel
theorem dX9_shares_32 : decode cX9_shares 32 = .ok (.getfield 67, 3) := by decide +kernel
theorem dX9_shares_35 : decode cX9_shares 35 = .ok (.iload_n 1, 1) := by decide +kernel
theorem dX9_shares_36 : decode cX9_shares 36 = .ok (.iload_n 3, 1) := by decide +kernel
theorem dX9_shares_37 : decode cX9_shares 37 = .ok (.invokevirtual 170, 3) := by decide +kernel
theorem dX9_shares_40 : decode cX9_shares 40 = .ok (.aload_n 0, 1) := by decide +kernel
theorem dX9_shares_41 : decode cX9_shares 41 = .ok (.getfield 23, 3) := by decide +kernel
theorem dX9_shares_44 : decode cX9_shares 44 = .ok (.iconst 0, 1) := by decide +kernel
theorem dX9_shares_45 : decode cX9_shares 45 = .ok (.invokevirtual 205, 3) := by decide +kernel
theorem dX9_shares_48 : decode cX9_shares 48 = .ok (.lstore 4, 2) := by decide +kernel
theorem dX9_shares_50 : decode cX9_shares 50 = .ok (.aload_n 0, 1) := by decide +kernel
theorem dX9_shares_51 : decode cX9_shares 51 = .ok (.getfield 23, 3) := by decide +kernel
theorem dX9_shares_54 : decode cX9_shares 54 = .ok (.aload_n 0, 1) := by decide +kernel
theorem dX9_shares_55 : decode cX9_shares 55 = .ok (.getfield 67, 3) := by decide +kernel
theorem dX9_shares_58 : decode cX9_shares 58 = .ok (.iload_n 2, 1) := by decide +kernel
theorem dX9_shares_59 : decode cX9_shares 59 = .ok (.iload_n 3, 1) := by decide +kernel
theorem dX9_shares_60 : decode cX9_shares 60 = .ok (.invokevirtual 170, 3) := by decide +kernel
theorem dX9_shares_63 : decode cX9_shares 63 = .ok (.lload 4, 2) := by decide +kernel
theorem dX9_shares_65 : decode cX9_shares 65 = .ok (.aload_n 0, 1) := by decide +kernel
theorem dX9_shares_66 : decode cX9_shares 66 = .ok (.getfield 23, 3) := by decide +kernel
theorem dX9_shares_69 : decode cX9_shares 69 = .ok (.iconst 0, 1) := by decide +kernel
theorem dX9_shares_70 : decode cX9_shares 70 = .ok (.invokevirtual 205, 3) := by decide +kernel
theorem dX9_shares_73 : decode cX9_shares 73 = .ok (.ladd, 1) := by decide +kernel
theorem dX9_shares_74 : decode cX9_shares 74 = .ok (.lstore 4, 2) := by decide +kernel
theorem dX9_shares_76 : decode cX9_shares 76 = .ok (.aload_n 0, 1) := by decide +kernel
theorem dX9_shares_77 : decode cX9_shares 77 = .ok (.getfield 23, 3) := by decide +kernel
theorem dX9_shares_80 : decode cX9_shares 80 = .ok (.aload_n 0, 1) := by decide +kernel
theorem dX9_shares_81 : decode cX9_shares 81 = .ok (.getfield 67, 3) := by decide +kernel
theorem dX9_shares_84 : decode cX9_shares 84 = .ok (.iload_n 1, 1) := by decide +kernel
theorem dX9_shares_85 : decode cX9_shares 85 = .ok (.iload_n 2, 1) := by decide +kernel
theorem dX9_shares_86 : decode cX9_shares 86 = .ok (.iload_n 3, 1) := by decide +kernel
theorem dX9_shares_87 : decode cX9_shares 87 = .ok (.invokevirtual 245, 3) := by decide +kernel
theorem dX9_shares_90 : decode cX9_shares 90 = .ok (.lload 4, 2) := by decide +kernel
theorem dX9_shares_92 : decode cX9_shares 92 = .ok (.aload_n 0, 1) := by decide +kernel
theorem dX9_shares_93 : decode cX9_shares 93 = .ok (.getfield 23, 3) := by decide +kernel
theorem dX9_shares_96 : decode cX9_shares 96 = .ok (.iconst 0, 1) := by decide +kernel
theorem dX9_shares_97 : decode cX9_shares 97 = .ok (.invokevirtual 205, 3) := by decide +kernel
theorem dX9_shares_100 : decode cX9_shares 100 = .ok (.lsub, 1) := by decide +kernel
theorem dX9_shares_101 : decode cX9_shares 101 = .ok (.ldc2_w 158, 3) := by decide +kernel
theorem dX9_shares_104 : decode cX9_shares 104 = .ok (.ldiv, 1) := by decide +kernel
theorem dX9_shares_105 : decode cX9_shares 105 = .ok (.lreturn, 1) := by decide +kernel
theorem dX9_shares_23 : decode cX9_shares 23 = .ok (.ldc2_w 176, 3) := by decide +kernel
theorem dX9_shares_26 : decode cX9_shares 26 = .ok (.lreturn, 1) := by decide +kernel
theorem dX9_flown_0 : decode cX9_flown 0 = .ok (.aload_n 0, 1) := by decide +kernel
theorem dX9_flown_1 : decode cX9_flown 1 = .ok (.getfield 67, 3) := by decide +kernel
theorem dX9_flown_4 : decode cX9_flown 4 = .ok (.iload_n 1, 1) := by decide +kernel
theorem dX9_flown_5 : decode cX9_flown 5 = .ok (.iload_n 2, 1) := by decide +kernel
theorem dX9_flown_6 : decode cX9_flown 6 = .ok (.invokevirtual 160, 3) := by decide +kernel
theorem dX9_flown_9 : decode cX9_flown 9 = .ok (.ifCond .eq 10, 3) := by decide +kernel
theorem dX9_flown_12 : decode cX9_flown 12 = .ok (.iload_n 3, 1) := by decide +kernel
theorem dX9_flown_13 : decode cX9_flown 13 = .ok (.invokestatic 167, 3) := by decide +kernel
theorem dX9_flown_16 : decode cX9_flown 16 = .ok (.ifCond .ne 7, 3) := by decide +kernel
theorem dX9_flown_23 : decode cX9_flown 23 = .ok (.aload_n 0, 1) := by decide +kernel
theorem dX9_flown_24 : decode cX9_flown 24 = .ok (.getfield 23, 3) := by decide +kernel
theorem dX9_flown_27 : decode cX9_flown 27 = .ok (.aload_n 0, 1) := by decide +kernel
theorem dX9_flown_28 : decode cX9_flown 28 = .ok (.getfield 67, 3) := by decide +kernel
theorem dX9_flown_31 : decode cX9_flown 31 = .ok (.iload_n 1, 1) := by decide +kernel
theorem dX9_flown_32 : decode cX9_flown 32 = .ok (.iload_n 2, 1) := by decide +kernel
theorem dX9_flown_33 : decode cX9_flown 33 = .ok (.invokevirtual 184, 3) := by decide +kernel
theorem dX9_flown_36 : decode cX9_flown 36 = .ok (.aload_n 0, 1) := by decide +kernel
theorem dX9_flown_37 : decode cX9_flown 37 = .ok (.getfield 23, 3) := by decide +kernel
theorem dX9_flown_40 : decode cX9_flown 40 = .ok (.aload_n 0, 1) := by decide +kernel
theorem dX9_flown_41 : decode cX9_flown 41 = .ok (.getfield 67, 3) := by decide +kernel
theorem dX9_flown_44 : decode cX9_flown 44 = .ok (.iload_n 2, 1) := by decide +kernel
theorem dX9_flown_45 : decode cX9_flown 45 = .ok (.iload_n 3, 1) := by decide +kernel
theorem dX9_flown_46 : decode cX9_flown 46 = .ok (.invokevirtual 248, 3) := by decide +kernel
theorem dX9_flown_49 : decode cX9_flown 49 = .ok (.ldc2_w 158, 3) := by decide +kernel
theorem dX9_flown_52 : decode cX9_flown 52 = .ok (.ldiv, 1) := by decide +kernel
theorem dX9_flown_53 : decode cX9_flown 53 = .ok (.lreturn, 1) := by decide +kernel
theorem dX9_flown_19 : decode cX9_flown 19 = .ok (.ldc2_w 106, 3) := by decide +kernel
theorem dX9_flown_22 : decode cX9_flown 22 = .ok (.lreturn, 1) := by decide +kernel
theorem dX9_plane_0 : decode cX9_plane 0 = .ok (.aload_n 0, 1) := by decide +kernel
theorem dX9_plane_1 : decode cX9_plane 1 = .ok (.getfield 67, 3) := by decide +kernel
theorem dX9_plane_4 : decode cX9_plane 4 = .ok (.iload_n 1, 1) := by decide +kernel
theorem dX9_plane_5 : decode cX9_plane 5 = .ok (.iload_n 2, 1) := by decide +kernel
theorem dX9_plane_6 : decode cX9_plane 6 = .ok (.invokevirtual 160, 3) := by decide +kernel
theorem dX9_plane_9 : decode cX9_plane 9 = .ok (.ifCond .ne 6, 3) := by decide +kernel
theorem dX9_plane_15 : decode cX9_plane 15 = .ok (.aload_n 0, 1) := by decide +kernel
theorem dX9_plane_16 : decode cX9_plane 16 = .ok (.getfield 23, 3) := by decide +kernel
theorem dX9_plane_19 : decode cX9_plane 19 = .ok (.aload_n 0, 1) := by decide +kernel
theorem dX9_plane_20 : decode cX9_plane 20 = .ok (.getfield 67, 3) := by decide +kernel
theorem dX9_plane_23 : decode cX9_plane 23 = .ok (.iload_n 1, 1) := by decide +kernel
theorem dX9_plane_24 : decode cX9_plane 24 = .ok (.iload_n 2, 1) := by decide +kernel
theorem dX9_plane_25 : decode cX9_plane 25 = .ok (.invokevirtual 184, 3) := by decide +kernel
theorem dX9_plane_28 : decode cX9_plane 28 = .ok (.iconst 0, 1) := by decide +kernel
theorem dX9_plane_29 : decode cX9_plane 29 = .ok (.istore_n 3, 1) := by decide +kernel
theorem dX9_plane_30 : decode cX9_plane 30 = .ok (.aload_n 0, 1) := by decide +kernel
theorem dX9_plane_31 : decode cX9_plane 31 = .ok (.getfield 23, 3) := by decide +kernel
theorem dX9_plane_34 : decode cX9_plane 34 = .ok (.aload_n 0, 1) := by decide +kernel
theorem dX9_plane_35 : decode cX9_plane 35 = .ok (.getfield 67, 3) := by decide +kernel
theorem dX9_plane_38 : decode cX9_plane 38 = .ok (.iload_n 2, 1) := by decide +kernel
theorem dX9_plane_39 : decode cX9_plane 39 = .ok (.iconst 0, 1) := by decide +kernel
theorem dX9_plane_40 : decode cX9_plane 40 = .ok (.invokevirtual 248, 3) := by decide +kernel
theorem dX9_plane_43 : decode cX9_plane 43 = .ok (.lstore 4, 2) := by decide +kernel
theorem dX9_plane_45 : decode cX9_plane 45 = .ok (.iconst 1, 1) := by decide +kernel
theorem dX9_plane_46 : decode cX9_plane 46 = .ok (.istore 6, 2) := by decide +kernel
theorem dX9_plane_48 : decode cX9_plane 48 = .ok (.iload 6, 2) := by decide +kernel
theorem dX9_plane_50 : decode cX9_plane 50 = .ok (.sipush 999, 3) := by decide +kernel
theorem dX9_plane_53 : decode cX9_plane 53 = .ok (.if_icmp .gt 40, 3) := by decide +kernel
theorem dX9_plane_93 : decode cX9_plane 93 = .ok (.iload_n 3, 1) := by decide +kernel
theorem dX9_plane_94 : decode cX9_plane 94 = .ok (.ireturn, 1) := by decide +kernel
theorem dX9_plane_56 : decode cX9_plane 56 = .ok (.aload_n 0, 1) := by decide +kernel
theorem dX9_plane_57 : decode cX9_plane 57 = .ok (.getfield 23, 3) := by decide +kernel
theorem dX9_plane_60 : decode cX9_plane 60 = .ok (.aload_n 0, 1) := by decide +kernel
theorem dX9_plane_61 : decode cX9_plane 61 = .ok (.getfield 67, 3) := by decide +kernel
theorem dX9_plane_64 : decode cX9_plane 64 = .ok (.iload_n 2, 1) := by decide +kernel
theorem dX9_plane_65 : decode cX9_plane 65 = .ok (.iload 6, 2) := by decide +kernel
theorem dX9_plane_67 : decode cX9_plane 67 = .ok (.invokevirtual 248, 3) := by decide +kernel
theorem dX9_plane_70 : decode cX9_plane 70 = .ok (.lstore 7, 2) := by decide +kernel
theorem dX9_plane_72 : decode cX9_plane 72 = .ok (.lload 7, 2) := by decide +kernel
theorem dX9_plane_74 : decode cX9_plane 74 = .ok (.lload 4, 2) := by decide +kernel
theorem dX9_plane_76 : decode cX9_plane 76 = .ok (.lcmp, 1) := by decide +kernel
theorem dX9_plane_77 : decode cX9_plane 77 = .ok (.ifCond .ge 10, 3) := by decide +kernel
theorem dX9_plane_87 : decode cX9_plane 87 = .ok (.iinc 6 1, 3) := by decide +kernel
theorem dX9_plane_90 : decode cX9_plane 90 = .ok (.goto (-42), 3) := by decide +kernel
theorem dX9_plane_80 : decode cX9_plane 80 = .ok (.lload 7, 2) := by decide +kernel
theorem dX9_plane_82 : decode cX9_plane 82 = .ok (.lstore 4, 2) := by decide +kernel
theorem dX9_plane_84 : decode cX9_plane 84 = .ok (.iload 6, 2) := by decide +kernel
theorem dX9_plane_86 : decode cX9_plane 86 = .ok (.istore_n 3, 1) := by decide +kernel
theorem dX9_plane_12 : decode cX9_plane 12 = .ok (.bipush (-2), 2) := by decide +kernel
theorem dX9_plane_14 : decode cX9_plane 14 = .ok (.ireturn, 1) := by decide +kernel
theorem dX9_edge_0 : decode cX9_edge 0 = .ok (.aload_n 0, 1) := by decide +kernel
theorem dX9_edge_1 : decode cX9_edge 1 = .ok (.getfield 67, 3) := by decide +kernel
theorem dX9_edge_4 : decode cX9_edge 4 = .ok (.iload_n 1, 1) := by decide +kernel
theorem dX9_edge_5 : decode cX9_edge 5 = .ok (.invokevirtual 242, 3) := by decide +kernel
theorem dX9_edge_8 : decode cX9_edge 8 = .ok (.ifCond .ne 6, 3) := by decide +kernel
theorem dX9_edge_14 : decode cX9_edge 14 = .ok (.aload_n 0, 1) := by decide +kernel
theorem dX9_edge_15 : decode cX9_edge 15 = .ok (.getfield 67, 3) := by decide +kernel
theorem dX9_edge_18 : decode cX9_edge 18 = .ok (.getfield 251, 3) := by decide +kernel
theorem dX9_edge_21 : decode cX9_edge 21 = .ok (.iload_n 1, 1) := by decide +kernel
theorem dX9_edge_22 : decode cX9_edge 22 = .ok (.iaload, 1) := by decide +kernel
theorem dX9_edge_23 : decode cX9_edge 23 = .ok (.istore_n 2, 1) := by decide +kernel
theorem dX9_edge_24 : decode cX9_edge 24 = .ok (.aload_n 0, 1) := by decide +kernel
theorem dX9_edge_25 : decode cX9_edge 25 = .ok (.getfield 67, 3) := by decide +kernel
theorem dX9_edge_28 : decode cX9_edge 28 = .ok (.getfield 254, 3) := by decide +kernel
theorem dX9_edge_31 : decode cX9_edge 31 = .ok (.ifCond .eq 7, 3) := by decide +kernel
theorem dX9_edge_38 : decode cX9_edge 38 = .ok (.iconst (-1), 1) := by decide +kernel
theorem dX9_edge_39 : decode cX9_edge 39 = .ok (.ireturn, 1) := by decide +kernel
theorem dX9_edge_34 : decode cX9_edge 34 = .ok (.iload_n 2, 1) := by decide +kernel
theorem dX9_edge_35 : decode cX9_edge 35 = .ok (.ifCond .ne 5, 3) := by decide +kernel
theorem dX9_edge_40 : decode cX9_edge 40 = .ok (.aload_n 0, 1) := by decide +kernel
theorem dX9_edge_41 : decode cX9_edge 41 = .ok (.getfield 67, 3) := by decide +kernel
theorem dX9_edge_44 : decode cX9_edge 44 = .ok (.getfield 257, 3) := by decide +kernel
theorem dX9_edge_47 : decode cX9_edge 47 = .ok (.iload_n 2, 1) := by decide +kernel
theorem dX9_edge_48 : decode cX9_edge 48 = .ok (.idiv, 1) := by decide +kernel
theorem dX9_edge_49 : decode cX9_edge 49 = .ok (.iconst 1, 1) := by decide +kernel
theorem dX9_edge_50 : decode cX9_edge 50 = .ok (.iadd, 1) := by decide +kernel
theorem dX9_edge_51 : decode cX9_edge 51 = .ok (.istore_n 3, 1) := by decide +kernel
theorem dX9_edge_52 : decode cX9_edge 52 = .ok (.iload_n 3, 1) := by decide +kernel
theorem dX9_edge_53 : decode cX9_edge 53 = .ok (.aload_n 0, 1) := by decide +kernel
theorem dX9_edge_54 : decode cX9_edge 54 = .ok (.getfield 67, 3) := by decide +kernel
theorem dX9_edge_57 : decode cX9_edge 57 = .ok (.getfield 254, 3) := by decide +kernel
theorem dX9_edge_60 : decode cX9_edge 60 = .ok (.if_icmp .gt 7, 3) := by decide +kernel
theorem dX9_edge_67 : decode cX9_edge 67 = .ok (.iconst (-1), 1) := by decide +kernel
theorem dX9_edge_68 : decode cX9_edge 68 = .ok (.ireturn, 1) := by decide +kernel
theorem dX9_edge_63 : decode cX9_edge 63 = .ok (.iload_n 3, 1) := by decide +kernel
theorem dX9_edge_64 : decode cX9_edge 64 = .ok (.goto 4, 3) := by decide +kernel
theorem dX9_edge_11 : decode cX9_edge 11 = .ok (.bipush (-2), 2) := by decide +kernel
theorem dX9_edge_13 : decode cX9_edge 13 = .ok (.ireturn, 1) := by decide +kernel
theorem dX9_path_0 : decode cX9_path 0 = .ok (.aload_n 0, 1) := by decide +kernel
theorem dX9_path_1 : decode cX9_path 1 = .ok (.getfield 67, 3) := by decide +kernel
theorem dX9_path_4 : decode cX9_path 4 = .ok (.iload_n 1, 1) := by decide +kernel
theorem dX9_path_5 : decode cX9_path 5 = .ok (.iload_n 2, 1) := by decide +kernel
theorem dX9_path_6 : decode cX9_path 6 = .ok (.invokevirtual 125, 3) := by decide +kernel
theorem dX9_path_9 : decode cX9_path 9 = .ok (.ifCond .eq 22, 3) := by decide +kernel
theorem dX9_path_12 : decode cX9_path 12 = .ok (.aload_n 0, 1) := by decide +kernel
theorem dX9_path_13 : decode cX9_path 13 = .ok (.getfield 67, 3) := by decide +kernel
theorem dX9_path_16 : decode cX9_path 16 = .ok (.iload_n 3, 1) := by decide +kernel
theorem dX9_path_17 : decode cX9_path 17 = .ok (.invokevirtual 242, 3) := by decide +kernel
theorem dX9_path_20 : decode cX9_path 20 = .ok (.ifCond .eq 11, 3) := by decide +kernel
theorem dX9_path_23 : decode cX9_path 23 = .ok (.iload 4, 2) := by decide +kernel
theorem dX9_path_25 : decode cX9_path 25 = .ok (.invokestatic 167, 3) := by decide +kernel
theorem dX9_path_28 : decode cX9_path 28 = .ok (.ifCond .ne 7, 3) := by decide +kernel
theorem dX9_path_35 : decode cX9_path 35 = .ok (.aload_n 0, 1) := by decide +kernel
theorem dX9_path_36 : decode cX9_path 36 = .ok (.getfield 67, 3) := by decide +kernel
theorem dX9_path_39 : decode cX9_path 39 = .ok (.iload_n 1, 1) := by decide +kernel
theorem dX9_path_40 : decode cX9_path 40 = .ok (.iload_n 2, 1) := by decide +kernel
theorem dX9_path_41 : decode cX9_path 41 = .ok (.invokevirtual 260, 3) := by decide +kernel
theorem dX9_path_44 : decode cX9_path 44 = .ok (.ifCond .ne 19, 3) := by decide +kernel
theorem dX9_path_63 : decode cX9_path 63 = .ok (.aload_n 0, 1) := by decide +kernel
theorem dX9_path_64 : decode cX9_path 64 = .ok (.getfield 23, 3) := by decide +kernel
theorem dX9_path_67 : decode cX9_path 67 = .ok (.aload_n 0, 1) := by decide +kernel
theorem dX9_path_68 : decode cX9_path 68 = .ok (.getfield 67, 3) := by decide +kernel
theorem dX9_path_71 : decode cX9_path 71 = .ok (.iload_n 1, 1) := by decide +kernel
theorem dX9_path_72 : decode cX9_path 72 = .ok (.iload_n 2, 1) := by decide +kernel
theorem dX9_path_73 : decode cX9_path 73 = .ok (.iload_n 3, 1) := by decide +kernel
theorem dX9_path_74 : decode cX9_path 74 = .ok (.invokevirtual 264, 3) := by decide +kernel
theorem dX9_path_77 : decode cX9_path 77 = .ok (.aload_n 0, 1) := by decide +kernel
theorem dX9_path_78 : decode cX9_path 78 = .ok (.getfield 23, 3) := by decide +kernel
theorem dX9_path_81 : decode cX9_path 81 = .ok (.iload 4, 2) := by decide +kernel
theorem dX9_path_83 : decode cX9_path 83 = .ok (.invokevirtual 173, 3) := by decide +kernel
theorem dX9_path_86 : decode cX9_path 86 = .ok (.lreturn, 1) := by decide +kernel
theorem dX9_path_47 : decode cX9_path 47 = .ok (.aload_n 0, 1) := by decide +kernel
theorem dX9_path_48 : decode cX9_path 48 = .ok (.getfield 23, 3) := by decide +kernel
theorem dX9_path_51 : decode cX9_path 51 = .ok (.aload_n 0, 1) := by decide +kernel
theorem dX9_path_52 : decode cX9_path 52 = .ok (.getfield 67, 3) := by decide +kernel
theorem dX9_path_55 : decode cX9_path 55 = .ok (.iload_n 1, 1) := by decide +kernel
theorem dX9_path_56 : decode cX9_path 56 = .ok (.iload_n 3, 1) := by decide +kernel
theorem dX9_path_57 : decode cX9_path 57 = .ok (.invokevirtual 170, 3) := by decide +kernel
theorem dX9_path_60 : decode cX9_path 60 = .ok (.goto 17, 3) := by decide +kernel
theorem dX9_path_31 : decode cX9_path 31 = .ok (.ldc2_w 106, 3) := by decide +kernel
theorem dX9_path_34 : decode cX9_path 34 = .ok (.lreturn, 1) := by decide +kernel
theorem dX9_fed_0 : decode cX9_fed 0 = .ok (.aload_n 0, 1) := by decide +kernel
theorem dX9_fed_1 : decode cX9_fed 1 = .ok (.getfield 67, 3) := by decide +kernel
theorem dX9_fed_4 : decode cX9_fed 4 = .ok (.iload_n 1, 1) := by decide +kernel
theorem dX9_fed_5 : decode cX9_fed 5 = .ok (.iload_n 2, 1) := by decide +kernel
theorem dX9_fed_6 : decode cX9_fed 6 = .ok (.invokevirtual 125, 3) := by decide +kernel
theorem dX9_fed_9 : decode cX9_fed 9 = .ok (.ifCond .ne 6, 3) := by decide +kernel
theorem dX9_fed_15 : decode cX9_fed 15 = .ok (.aload_n 0, 1) := by decide +kernel
theorem dX9_fed_16 : decode cX9_fed 16 = .ok (.getfield 67, 3) := by decide +kernel
theorem dX9_fed_19 : decode cX9_fed 19 = .ok (.iload_n 1, 1) := by decide +kernel
theorem dX9_fed_20 : decode cX9_fed 20 = .ok (.iload_n 2, 1) := by decide +kernel
theorem dX9_fed_21 : decode cX9_fed 21 = .ok (.invokevirtual 260, 3) := by decide +kernel
theorem dX9_fed_24 : decode cX9_fed 24 = .ok (.ifCond .ne 5, 3) := by decide +kernel
theorem dX9_fed_29 : decode cX9_fed 29 = .ok (.aload_n 0, 1) := by decide +kernel
theorem dX9_fed_30 : decode cX9_fed 30 = .ok (.getfield 23, 3) := by decide +kernel
theorem dX9_fed_33 : decode cX9_fed 33 = .ok (.getfield 108, 3) := by decide +kernel
theorem dX9_fed_36 : decode cX9_fed 36 = .ok (.aload_n 0, 1) := by decide +kernel
theorem dX9_fed_37 : decode cX9_fed 37 = .ok (.getfield 67, 3) := by decide +kernel
theorem dX9_fed_40 : decode cX9_fed 40 = .ok (.iload_n 1, 1) := by decide +kernel
theorem dX9_fed_41 : decode cX9_fed 41 = .ok (.iload_n 2, 1) := by decide +kernel
theorem dX9_fed_42 : decode cX9_fed 42 = .ok (.invokevirtual 129, 3) := by decide +kernel
theorem dX9_fed_45 : decode cX9_fed 45 = .ok (.lconst 0, 1) := by decide +kernel
theorem dX9_fed_46 : decode cX9_fed 46 = .ok (.lstore_n 3, 1) := by decide +kernel
theorem dX9_fed_47 : decode cX9_fed 47 = .ok (.iconst 1, 1) := by decide +kernel
theorem dX9_fed_48 : decode cX9_fed 48 = .ok (.istore 5, 2) := by decide +kernel
theorem dX9_fed_50 : decode cX9_fed 50 = .ok (.iload 5, 2) := by decide +kernel
theorem dX9_fed_52 : decode cX9_fed 52 = .ok (.aload_n 0, 1) := by decide +kernel
theorem dX9_fed_53 : decode cX9_fed 53 = .ok (.getfield 67, 3) := by decide +kernel
theorem dX9_fed_56 : decode cX9_fed 56 = .ok (.getfield 155, 3) := by decide +kernel
theorem dX9_fed_59 : decode cX9_fed 59 = .ok (.if_icmp .gt 62, 3) := by decide +kernel
theorem dX9_fed_121 : decode cX9_fed 121 = .ok (.lload_n 3, 1) := by decide +kernel
theorem dX9_fed_122 : decode cX9_fed 122 = .ok (.ldc2_w 271, 3) := by decide +kernel
theorem dX9_fed_125 : decode cX9_fed 125 = .ok (.ldiv, 1) := by decide +kernel
theorem dX9_fed_126 : decode cX9_fed 126 = .ok (.l2i, 1) := by decide +kernel
theorem dX9_fed_127 : decode cX9_fed 127 = .ok (.ireturn, 1) := by decide +kernel
theorem dX9_fed_62 : decode cX9_fed 62 = .ok (.iconst 0, 1) := by decide +kernel
theorem dX9_fed_63 : decode cX9_fed 63 = .ok (.istore 6, 2) := by decide +kernel
theorem dX9_fed_65 : decode cX9_fed 65 = .ok (.iload 6, 2) := by decide +kernel
theorem dX9_fed_67 : decode cX9_fed 67 = .ok (.aload_n 0, 1) := by decide +kernel
theorem dX9_fed_68 : decode cX9_fed 68 = .ok (.getfield 67, 3) := by decide +kernel
theorem dX9_fed_71 : decode cX9_fed 71 = .ok (.getfield 155, 3) := by decide +kernel
theorem dX9_fed_74 : decode cX9_fed 74 = .ok (.if_icmp .gt 41, 3) := by decide +kernel
theorem dX9_fed_115 : decode cX9_fed 115 = .ok (.iinc 5 1, 3) := by decide +kernel
theorem dX9_fed_118 : decode cX9_fed 118 = .ok (.goto (-68), 3) := by decide +kernel
theorem dX9_fed_77 : decode cX9_fed 77 = .ok (.lload_n 3, 1) := by decide +kernel
theorem dX9_fed_78 : decode cX9_fed 78 = .ok (.aload_n 0, 1) := by decide +kernel
theorem dX9_fed_79 : decode cX9_fed 79 = .ok (.getfield 23, 3) := by decide +kernel
theorem dX9_fed_82 : decode cX9_fed 82 = .ok (.getfield 108, 3) := by decide +kernel
theorem dX9_fed_85 : decode cX9_fed 85 = .ok (.iload 5, 2) := by decide +kernel
theorem dX9_fed_87 : decode cX9_fed 87 = .ok (.iload 6, 2) := by decide +kernel
theorem dX9_fed_89 : decode cX9_fed 89 = .ok (.invokevirtual 133, 3) := by decide +kernel
theorem dX9_fed_92 : decode cX9_fed 92 = .ok (.aload_n 0, 1) := by decide +kernel
theorem dX9_fed_93 : decode cX9_fed 93 = .ok (.getfield 67, 3) := by decide +kernel
theorem dX9_fed_96 : decode cX9_fed 96 = .ok (.iload_n 1, 1) := by decide +kernel
theorem dX9_fed_97 : decode cX9_fed 97 = .ok (.iload_n 2, 1) := by decide +kernel
theorem dX9_fed_98 : decode cX9_fed 98 = .ok (.iload 5, 2) := by decide +kernel
theorem dX9_fed_100 : decode cX9_fed 100 = .ok (.iload 6, 2) := by decide +kernel
theorem dX9_fed_102 : decode cX9_fed 102 = .ok (.invokevirtual 267, 3) := by decide +kernel
theorem dX9_fed_105 : decode cX9_fed 105 = .ok (.i2l, 1) := by decide +kernel
theorem dX9_fed_106 : decode cX9_fed 106 = .ok (.lmul, 1) := by decide +kernel
theorem dX9_fed_107 : decode cX9_fed 107 = .ok (.ladd, 1) := by decide +kernel
theorem dX9_fed_108 : decode cX9_fed 108 = .ok (.lstore_n 3, 1) := by decide +kernel
theorem dX9_fed_109 : decode cX9_fed 109 = .ok (.iinc 6 1, 3) := by decide +kernel
theorem dX9_fed_112 : decode cX9_fed 112 = .ok (.goto (-47), 3) := by decide +kernel
theorem dX9_fed_27 : decode cX9_fed 27 = .ok (.iconst 0, 1) := by decide +kernel
theorem dX9_fed_28 : decode cX9_fed 28 = .ok (.ireturn, 1) := by decide +kernel
theorem dX9_fed_12 : decode cX9_fed 12 = .ok (.bipush (-2), 2) := by decide +kernel
theorem dX9_fed_14 : decode cX9_fed 14 = .ok (.ireturn, 1) := by decide +kernel
theorem dX9_shareState_0 : decode cX9_shareState 0 = .ok (.iload_n 1, 1) := by decide +kernel
theorem dX9_shareState_1 : decode cX9_shareState 1 = .ok (.invokestatic 312, 3) := by decide +kernel
theorem dX9_shareState_4 : decode cX9_shareState 4 = .ok (.ifCond .eq 35, 3) := by decide +kernel
theorem dX9_shareState_7 : decode cX9_shareState 7 = .ok (.iload_n 2, 1) := by decide +kernel
theorem dX9_shareState_8 : decode cX9_shareState 8 = .ok (.ifCond .lt 31, 3) := by decide +kernel
theorem dX9_shareState_39 : decode cX9_shareState 39 = .ok (.bipush (-2), 2) := by decide +kernel
theorem dX9_shareState_41 : decode cX9_shareState 41 = .ok (.ireturn, 1) := by decide +kernel
theorem dX9_shareState_11 : decode cX9_shareState 11 = .ok (.iload_n 2, 1) := by decide +kernel
theorem dX9_shareState_12 : decode cX9_shareState 12 = .ok (.iconst 1, 1) := by decide +kernel
theorem dX9_shareState_13 : decode cX9_shareState 13 = .ok (.if_icmp .gt 26, 3) := by decide +kernel
theorem dX9_shareState_16 : decode cX9_shareState 16 = .ok (.iload_n 3, 1) := by decide +kernel
theorem dX9_shareState_17 : decode cX9_shareState 17 = .ok (.ifCond .lt 22, 3) := by decide +kernel
theorem dX9_shareState_20 : decode cX9_shareState 20 = .ok (.iload_n 3, 1) := by decide +kernel
theorem dX9_shareState_21 : decode cX9_shareState 21 = .ok (.ldc_w 384, 3) := by decide +kernel
theorem dX9_shareState_24 : decode cX9_shareState 24 = .ok (.if_icmp .gt 15, 3) := by decide +kernel
theorem dX9_shareState_27 : decode cX9_shareState 27 = .ok (.aload_n 0, 1) := by decide +kernel
theorem dX9_shareState_28 : decode cX9_shareState 28 = .ok (.getfield 67, 3) := by decide +kernel
theorem dX9_shareState_31 : decode cX9_shareState 31 = .ok (.iload 4, 2) := by decide +kernel
theorem dX9_shareState_33 : decode cX9_shareState 33 = .ok (.invokevirtual 99, 3) := by decide +kernel
theorem dX9_shareState_36 : decode cX9_shareState 36 = .ok (.ifCond .ne 6, 3) := by decide +kernel
theorem dX9_shareState_42 : decode cX9_shareState 42 = .ok (.aload_n 0, 1) := by decide +kernel
theorem dX9_shareState_43 : decode cX9_shareState 43 = .ok (.getfield 54, 3) := by decide +kernel
theorem dX9_shareState_46 : decode cX9_shareState 46 = .ok (.iload_n 1, 1) := by decide +kernel
theorem dX9_shareState_47 : decode cX9_shareState 47 = .ok (.aaload, 1) := by decide +kernel
theorem dX9_shareState_48 : decode cX9_shareState 48 = .ok (.astore 5, 2) := by decide +kernel
theorem dX9_shareState_50 : decode cX9_shareState 50 = .ok (.aload 5, 2) := by decide +kernel
theorem dX9_shareState_52 : decode cX9_shareState 52 = .ok (.ifnonnull 6, 3) := by decide +kernel
theorem dX9_shareState_55 : decode cX9_shareState 55 = .ok (.bipush (-6), 2) := by decide +kernel
theorem dX9_shareState_57 : decode cX9_shareState 57 = .ok (.ireturn, 1) := by decide +kernel
theorem dX9_shareState_58 : decode cX9_shareState 58 = .ok (.aload 5, 2) := by decide +kernel
theorem dX9_shareState_60 : decode cX9_shareState 60 = .ok (.getfield 315, 3) := by decide +kernel
theorem dX9_shareState_63 : decode cX9_shareState 63 = .ok (.arraylength, 1) := by decide +kernel
theorem dX9_shareState_64 : decode cX9_shareState 64 = .ok (.aload_n 0, 1) := by decide +kernel
theorem dX9_shareState_65 : decode cX9_shareState 65 = .ok (.getfield 67, 3) := by decide +kernel
theorem dX9_shareState_68 : decode cX9_shareState 68 = .ok (.getfield 137, 3) := by decide +kernel
theorem dX9_shareState_71 : decode cX9_shareState 71 = .ok (.if_icmp .ne 15, 3) := by decide +kernel
theorem dX9_shareState_86 : decode cX9_shareState 86 = .ok (.bipush (-2), 2) := by decide +kernel
theorem dX9_shareState_88 : decode cX9_shareState 88 = .ok (.ireturn, 1) := by decide +kernel
theorem dX9_shareState_74 : decode cX9_shareState 74 = .ok (.aload 5, 2) := by decide +kernel
theorem dX9_shareState_76 : decode cX9_shareState 76 = .ok (.lconst 0, 1) := by decide +kernel
theorem dX9_shareState_77 : decode cX9_shareState 77 = .ok (.ldc2_w 385, 3) := by decide +kernel
theorem dX9_shareState_80 : decode cX9_shareState 80 = .ok (.invokevirtual 319, 3) := by decide +kernel
theorem dX9_shareState_83 : decode cX9_shareState 83 = .ok (.ifCond .ne 6, 3) := by decide +kernel
theorem dX9_shareState_89 : decode cX9_shareState 89 = .ok (.aload_n 0, 1) := by decide +kernel
theorem dX9_shareState_90 : decode cX9_shareState 90 = .ok (.getfield 37, 3) := by decide +kernel
theorem dX9_shareState_93 : decode cX9_shareState 93 = .ok (.aload 5, 2) := by decide +kernel
theorem dX9_shareState_95 : decode cX9_shareState 95 = .ok (.getfield 315, 3) := by decide +kernel
theorem dX9_shareState_98 : decode cX9_shareState 98 = .ok (.invokevirtual 387, 3) := by decide +kernel
theorem dX9_shareState_101 : decode cX9_shareState 101 = .ok (.iconst 0, 1) := by decide +kernel
theorem dX9_shareState_102 : decode cX9_shareState 102 = .ok (.ireturn, 1) := by decide +kernel
theorem dX9_given_0 : decode cX9_given 0 = .ok (.aload_n 0, 1) := by decide +kernel
theorem dX9_given_1 : decode cX9_given 1 = .ok (.iload_n 1, 1) := by decide +kernel
theorem dX9_given_2 : decode cX9_given 2 = .ok (.iload_n 2, 1) := by decide +kernel
theorem dX9_given_3 : decode cX9_given 3 = .ok (.iload_n 3, 1) := by decide +kernel
theorem dX9_given_4 : decode cX9_given 4 = .ok (.iload 4, 2) := by decide +kernel
theorem dX9_given_6 : decode cX9_given 6 = .ok (.invokevirtual 273, 3) := by decide +kernel
theorem dX9_given_9 : decode cX9_given 9 = .ok (.istore 5, 2) := by decide +kernel
theorem dX9_given_11 : decode cX9_given 11 = .ok (.iload 5, 2) := by decide +kernel
theorem dX9_given_13 : decode cX9_given 13 = .ok (.ifCond .eq 6, 3) := by decide +kernel
theorem dX9_given_19 : decode cX9_given 19 = .ok (.aload_n 0, 1) := by decide +kernel
theorem dX9_given_20 : decode cX9_given 20 = .ok (.getfield 37, 3) := by decide +kernel
theorem dX9_given_23 : decode cX9_given 23 = .ok (.iload_n 2, 1) := by decide +kernel
theorem dX9_given_24 : decode cX9_given 24 = .ok (.iload_n 3, 1) := by decide +kernel
theorem dX9_given_25 : decode cX9_given 25 = .ok (.iload 4, 2) := by decide +kernel
theorem dX9_given_27 : decode cX9_given 27 = .ok (.invokevirtual 276, 3) := by decide +kernel
theorem dX9_given_30 : decode cX9_given 30 = .ok (.ireturn, 1) := by decide +kernel
theorem dX9_given_16 : decode cX9_given 16 = .ok (.iload 5, 2) := by decide +kernel
theorem dX9_given_18 : decode cX9_given 18 = .ok (.ireturn, 1) := by decide +kernel
theorem dX9_lossIfAsked_0 : decode cX9_lossIfAsked 0 = .ok (.aload_n 0, 1) := by decide +kernel
theorem dX9_lossIfAsked_1 : decode cX9_lossIfAsked 1 = .ok (.getfield 23, 3) := by decide +kernel
theorem dX9_lossIfAsked_4 : decode cX9_lossIfAsked 4 = .ok (.aload_n 0, 1) := by decide +kernel
theorem dX9_lossIfAsked_5 : decode cX9_lossIfAsked 5 = .ok (.getfield 67, 3) := by decide +kernel
theorem dX9_lossIfAsked_8 : decode cX9_lossIfAsked 8 = .ok (.iload 4, 2) := by decide +kernel
theorem dX9_lossIfAsked_10 : decode cX9_lossIfAsked 10 = .ok (.aload_n 0, 1) := by decide +kernel
theorem dX9_lossIfAsked_11 : decode cX9_lossIfAsked 11 = .ok (.getfield 37, 3) := by decide +kernel
theorem dX9_lossIfAsked_14 : decode cX9_lossIfAsked 14 = .ok (.iload_n 1, 1) := by decide +kernel
theorem dX9_lossIfAsked_15 : decode cX9_lossIfAsked 15 = .ok (.iload_n 2, 1) := by decide +kernel
theorem dX9_lossIfAsked_16 : decode cX9_lossIfAsked 16 = .ok (.iload_n 3, 1) := by decide +kernel
theorem dX9_lossIfAsked_17 : decode cX9_lossIfAsked 17 = .ok (.iload 5, 2) := by decide +kernel
theorem dX9_lossIfAsked_19 : decode cX9_lossIfAsked 19 = .ok (.invokevirtual 391, 3) := by decide +kernel
theorem dX9_lossIfAsked_22 : decode cX9_lossIfAsked 22 = .ok (.invokevirtual 282, 3) := by decide +kernel
theorem dX9_lossIfAsked_25 : decode cX9_lossIfAsked 25 = .ok (.lreturn, 1) := by decide +kernel
theorem dX9_bestAsked_0 : decode cX9_bestAsked 0 = .ok (.aload_n 0, 1) := by decide +kernel
theorem dX9_bestAsked_1 : decode cX9_bestAsked 1 = .ok (.iload_n 1, 1) := by decide +kernel
theorem dX9_bestAsked_2 : decode cX9_bestAsked 2 = .ok (.iload_n 2, 1) := by decide +kernel
theorem dX9_bestAsked_3 : decode cX9_bestAsked 3 = .ok (.iload_n 3, 1) := by decide +kernel
theorem dX9_bestAsked_4 : decode cX9_bestAsked 4 = .ok (.iload 4, 2) := by decide +kernel
theorem dX9_bestAsked_6 : decode cX9_bestAsked 6 = .ok (.sipush 999, 3) := by decide +kernel
theorem dX9_bestAsked_9 : decode cX9_bestAsked 9 = .ok (.invokevirtual 285, 3) := by decide +kernel
theorem dX9_bestAsked_12 : decode cX9_bestAsked 12 = .ok (.lstore 5, 2) := by decide +kernel
theorem dX9_bestAsked_14 : decode cX9_bestAsked 14 = .ok (.iconst 0, 1) := by decide +kernel
theorem dX9_bestAsked_15 : decode cX9_bestAsked 15 = .ok (.istore 7, 2) := by decide +kernel
theorem dX9_bestAsked_17 : decode cX9_bestAsked 17 = .ok (.sipush 999, 3) := by decide +kernel
theorem dX9_bestAsked_20 : decode cX9_bestAsked 20 = .ok (.istore 8, 2) := by decide +kernel
theorem dX9_bestAsked_22 : decode cX9_bestAsked 22 = .ok (.iconst 0, 1) := by decide +kernel
theorem dX9_bestAsked_23 : decode cX9_bestAsked 23 = .ok (.istore 9, 2) := by decide +kernel
theorem dX9_bestAsked_25 : decode cX9_bestAsked 25 = .ok (.iload 9, 2) := by decide +kernel
theorem dX9_bestAsked_27 : decode cX9_bestAsked 27 = .ok (.bipush 10, 2) := by decide +kernel
theorem dX9_bestAsked_29 : decode cX9_bestAsked 29 = .ok (.if_icmp .ge 55, 3) := by decide +kernel
theorem dX9_bestAsked_84 : decode cX9_bestAsked 84 = .ok (.iload 7, 2) := by decide +kernel
theorem dX9_bestAsked_86 : decode cX9_bestAsked 86 = .ok (.ireturn, 1) := by decide +kernel
theorem dX9_bestAsked_32 : decode cX9_bestAsked 32 = .ok (.iload 7, 2) := by decide +kernel
theorem dX9_bestAsked_34 : decode cX9_bestAsked 34 = .ok (.iload 8, 2) := by decide +kernel
theorem dX9_bestAsked_36 : decode cX9_bestAsked 36 = .ok (.if_icmp .ge 48, 3) := by decide +kernel
theorem dX9_bestAsked_39 : decode cX9_bestAsked 39 = .ok (.iload 7, 2) := by decide +kernel
theorem dX9_bestAsked_41 : decode cX9_bestAsked 41 = .ok (.iload 8, 2) := by decide +kernel
theorem dX9_bestAsked_43 : decode cX9_bestAsked 43 = .ok (.iadd, 1) := by decide +kernel
theorem dX9_bestAsked_44 : decode cX9_bestAsked 44 = .ok (.iconst 2, 1) := by decide +kernel
theorem dX9_bestAsked_45 : decode cX9_bestAsked 45 = .ok (.idiv, 1) := by decide +kernel
theorem dX9_bestAsked_46 : decode cX9_bestAsked 46 = .ok (.istore 10, 2) := by decide +kernel
theorem dX9_bestAsked_48 : decode cX9_bestAsked 48 = .ok (.aload_n 0, 1) := by decide +kernel
theorem dX9_bestAsked_49 : decode cX9_bestAsked 49 = .ok (.iload_n 1, 1) := by decide +kernel
theorem dX9_bestAsked_50 : decode cX9_bestAsked 50 = .ok (.iload_n 2, 1) := by decide +kernel
theorem dX9_bestAsked_51 : decode cX9_bestAsked 51 = .ok (.iload_n 3, 1) := by decide +kernel
theorem dX9_bestAsked_52 : decode cX9_bestAsked 52 = .ok (.iload 4, 2) := by decide +kernel
theorem dX9_bestAsked_54 : decode cX9_bestAsked 54 = .ok (.iload 10, 2) := by decide +kernel
theorem dX9_bestAsked_56 : decode cX9_bestAsked 56 = .ok (.invokevirtual 285, 3) := by decide +kernel
theorem dX9_bestAsked_59 : decode cX9_bestAsked 59 = .ok (.lload 5, 2) := by decide +kernel
theorem dX9_bestAsked_61 : decode cX9_bestAsked 61 = .ok (.lcmp, 1) := by decide +kernel
theorem dX9_bestAsked_62 : decode cX9_bestAsked 62 = .ok (.ifCond .ne 10, 3) := by decide +kernel
theorem dX9_bestAsked_72 : decode cX9_bestAsked 72 = .ok (.iload 10, 2) := by decide +kernel
theorem dX9_bestAsked_74 : decode cX9_bestAsked 74 = .ok (.iconst 1, 1) := by decide +kernel
theorem dX9_bestAsked_75 : decode cX9_bestAsked 75 = .ok (.iadd, 1) := by decide +kernel
theorem dX9_bestAsked_76 : decode cX9_bestAsked 76 = .ok (.istore 7, 2) := by decide +kernel
theorem dX9_bestAsked_78 : decode cX9_bestAsked 78 = .ok (.iinc 9 1, 3) := by decide +kernel
theorem dX9_bestAsked_81 : decode cX9_bestAsked 81 = .ok (.goto (-56), 3) := by decide +kernel
theorem dX9_bestAsked_65 : decode cX9_bestAsked 65 = .ok (.iload 10, 2) := by decide +kernel
theorem dX9_bestAsked_67 : decode cX9_bestAsked 67 = .ok (.istore 8, 2) := by decide +kernel
theorem dX9_bestAsked_69 : decode cX9_bestAsked 69 = .ok (.goto 9, 3) := by decide +kernel
theorem dX9_asks_0 : decode cX9_asks 0 = .ok (.aload_n 0, 1) := by decide +kernel
theorem dX9_asks_1 : decode cX9_asks 1 = .ok (.getfield 67, 3) := by decide +kernel
theorem dX9_asks_4 : decode cX9_asks 4 = .ok (.iload 5, 2) := by decide +kernel
theorem dX9_asks_6 : decode cX9_asks 6 = .ok (.invokevirtual 242, 3) := by decide +kernel
theorem dX9_asks_9 : decode cX9_asks 9 = .ok (.ifCond .ne 6, 3) := by decide +kernel
theorem dX9_asks_15 : decode cX9_asks 15 = .ok (.aload_n 0, 1) := by decide +kernel
theorem dX9_asks_16 : decode cX9_asks 16 = .ok (.iload_n 1, 1) := by decide +kernel
theorem dX9_asks_17 : decode cX9_asks 17 = .ok (.iload_n 2, 1) := by decide +kernel
theorem dX9_asks_18 : decode cX9_asks 18 = .ok (.iload_n 3, 1) := by decide +kernel
theorem dX9_asks_19 : decode cX9_asks 19 = .ok (.iload 4, 2) := by decide +kernel
theorem dX9_asks_21 : decode cX9_asks 21 = .ok (.invokevirtual 273, 3) := by decide +kernel
theorem dX9_asks_24 : decode cX9_asks 24 = .ok (.istore 6, 2) := by decide +kernel
theorem dX9_asks_26 : decode cX9_asks 26 = .ok (.iload 6, 2) := by decide +kernel
theorem dX9_asks_28 : decode cX9_asks 28 = .ok (.ifCond .eq 6, 3) := by decide +kernel
theorem dX9_asks_34 : decode cX9_asks 34 = .ok (.aload_n 0, 1) := by decide +kernel
theorem dX9_asks_35 : decode cX9_asks 35 = .ok (.getfield 23, 3) := by decide +kernel
theorem dX9_asks_38 : decode cX9_asks 38 = .ok (.aload_n 0, 1) := by decide +kernel
theorem dX9_asks_39 : decode cX9_asks 39 = .ok (.getfield 67, 3) := by decide +kernel
theorem dX9_asks_42 : decode cX9_asks 42 = .ok (.iload 4, 2) := by decide +kernel
theorem dX9_asks_44 : decode cX9_asks 44 = .ok (.iload 5, 2) := by decide +kernel
theorem dX9_asks_46 : decode cX9_asks 46 = .ok (.invokevirtual 184, 3) := by decide +kernel
theorem dX9_asks_49 : decode cX9_asks 49 = .ok (.aload_n 0, 1) := by decide +kernel
theorem dX9_asks_50 : decode cX9_asks 50 = .ok (.iload_n 2, 1) := by decide +kernel
theorem dX9_asks_51 : decode cX9_asks 51 = .ok (.iload_n 3, 1) := by decide +kernel
theorem dX9_asks_52 : decode cX9_asks 52 = .ok (.iload 4, 2) := by decide +kernel
theorem dX9_asks_54 : decode cX9_asks 54 = .ok (.iload 5, 2) := by decide +kernel
theorem dX9_asks_56 : decode cX9_asks 56 = .ok (.invokevirtual 279, 3) := by decide +kernel
theorem dX9_asks_59 : decode cX9_asks 59 = .ok (.ireturn, 1) := by decide +kernel
theorem dX9_asks_31 : decode cX9_asks 31 = .ok (.iload 6, 2) := by decide +kernel
theorem dX9_asks_33 : decode cX9_asks 33 = .ok (.ireturn, 1) := by decide +kernel
theorem dX9_asks_12 : decode cX9_asks 12 = .ok (.bipush (-2), 2) := by decide +kernel
theorem dX9_asks_14 : decode cX9_asks 14 = .ok (.ireturn, 1) := by decide +kernel
theorem dX9_pays_0 : decode cX9_pays 0 = .ok (.aload_n 0, 1) := by decide +kernel
theorem dX9_pays_1 : decode cX9_pays 1 = .ok (.getfield 67, 3) := by decide +kernel
theorem dX9_pays_4 : decode cX9_pays 4 = .ok (.iload 5, 2) := by decide +kernel
theorem dX9_pays_6 : decode cX9_pays 6 = .ok (.invokevirtual 242, 3) := by decide +kernel
theorem dX9_pays_9 : decode cX9_pays 9 = .ok (.ifCond .ne 7, 3) := by decide +kernel
theorem dX9_pays_16 : decode cX9_pays 16 = .ok (.aload_n 0, 1) := by decide +kernel
theorem dX9_pays_17 : decode cX9_pays 17 = .ok (.iload_n 1, 1) := by decide +kernel
theorem dX9_pays_18 : decode cX9_pays 18 = .ok (.iload_n 2, 1) := by decide +kernel
theorem dX9_pays_19 : decode cX9_pays 19 = .ok (.iload_n 3, 1) := by decide +kernel
theorem dX9_pays_20 : decode cX9_pays 20 = .ok (.iload 4, 2) := by decide +kernel
theorem dX9_pays_22 : decode cX9_pays 22 = .ok (.invokevirtual 273, 3) := by decide +kernel
theorem dX9_pays_25 : decode cX9_pays 25 = .ok (.istore 6, 2) := by decide +kernel
theorem dX9_pays_27 : decode cX9_pays 27 = .ok (.iload 6, 2) := by decide +kernel
theorem dX9_pays_29 : decode cX9_pays 29 = .ok (.ifCond .eq 7, 3) := by decide +kernel
theorem dX9_pays_36 : decode cX9_pays 36 = .ok (.aload_n 0, 1) := by decide +kernel
theorem dX9_pays_37 : decode cX9_pays 37 = .ok (.getfield 23, 3) := by decide +kernel
theorem dX9_pays_40 : decode cX9_pays 40 = .ok (.aload_n 0, 1) := by decide +kernel
theorem dX9_pays_41 : decode cX9_pays 41 = .ok (.getfield 67, 3) := by decide +kernel
theorem dX9_pays_44 : decode cX9_pays 44 = .ok (.iload 4, 2) := by decide +kernel
theorem dX9_pays_46 : decode cX9_pays 46 = .ok (.iload 5, 2) := by decide +kernel
theorem dX9_pays_48 : decode cX9_pays 48 = .ok (.invokevirtual 184, 3) := by decide +kernel
theorem dX9_pays_51 : decode cX9_pays 51 = .ok (.aload_n 0, 1) := by decide +kernel
theorem dX9_pays_52 : decode cX9_pays 52 = .ok (.getfield 23, 3) := by decide +kernel
theorem dX9_pays_55 : decode cX9_pays 55 = .ok (.aload_n 0, 1) := by decide +kernel
theorem dX9_pays_56 : decode cX9_pays 56 = .ok (.getfield 67, 3) := by decide +kernel
theorem dX9_pays_59 : decode cX9_pays 59 = .ok (.iload 5, 2) := by decide +kernel
theorem dX9_pays_61 : decode cX9_pays 61 = .ok (.aload_n 0, 1) := by decide +kernel
theorem dX9_pays_62 : decode cX9_pays 62 = .ok (.getfield 37, 3) := by decide +kernel
theorem dX9_pays_65 : decode cX9_pays 65 = .ok (.iload_n 2, 1) := by decide +kernel
theorem dX9_pays_66 : decode cX9_pays 66 = .ok (.iload_n 3, 1) := by decide +kernel
theorem dX9_pays_67 : decode cX9_pays 67 = .ok (.iload 4, 2) := by decide +kernel
theorem dX9_pays_69 : decode cX9_pays 69 = .ok (.invokevirtual 276, 3) := by decide +kernel
theorem dX9_pays_72 : decode cX9_pays 72 = .ok (.invokevirtual 282, 3) := by decide +kernel
theorem dX9_pays_75 : decode cX9_pays 75 = .ok (.lstore 7, 2) := by decide +kernel
theorem dX9_pays_77 : decode cX9_pays 77 = .ok (.lload 7, 2) := by decide +kernel
theorem dX9_pays_79 : decode cX9_pays 79 = .ok (.aload_n 0, 1) := by decide +kernel
theorem dX9_pays_80 : decode cX9_pays 80 = .ok (.iload_n 2, 1) := by decide +kernel
theorem dX9_pays_81 : decode cX9_pays 81 = .ok (.iload_n 3, 1) := by decide +kernel
theorem dX9_pays_82 : decode cX9_pays 82 = .ok (.iload 4, 2) := by decide +kernel
theorem dX9_pays_84 : decode cX9_pays 84 = .ok (.iload 5, 2) := by decide +kernel
theorem dX9_pays_86 : decode cX9_pays 86 = .ok (.sipush 999, 3) := by decide +kernel
theorem dX9_pays_89 : decode cX9_pays 89 = .ok (.invokevirtual 285, 3) := by decide +kernel
theorem dX9_pays_92 : decode cX9_pays 92 = .ok (.lsub, 1) := by decide +kernel
theorem dX9_pays_93 : decode cX9_pays 93 = .ok (.ldc2_w 158, 3) := by decide +kernel
theorem dX9_pays_96 : decode cX9_pays 96 = .ok (.ldiv, 1) := by decide +kernel
theorem dX9_pays_97 : decode cX9_pays 97 = .ok (.lreturn, 1) := by decide +kernel
theorem dX9_pays_32 : decode cX9_pays 32 = .ok (.iload 6, 2) := by decide +kernel
theorem dX9_pays_34 : decode cX9_pays 34 = .ok (.i2l, 1) := by decide +kernel
theorem dX9_pays_35 : decode cX9_pays 35 = .ok (.lreturn, 1) := by decide +kernel
theorem dX9_pays_12 : decode cX9_pays 12 = .ok (.ldc2_w 106, 3) := by decide +kernel
theorem dX9_pays_15 : decode cX9_pays 15 = .ok (.lreturn, 1) := by decide +kernel
theorem dX9_costOfHeld_0 : decode cX9_costOfHeld 0 = .ok (.aload_n 0, 1) := by decide +kernel
theorem dX9_costOfHeld_1 : decode cX9_costOfHeld 1 = .ok (.getfield 23, 3) := by decide +kernel
theorem dX9_costOfHeld_4 : decode cX9_costOfHeld 4 = .ok (.iload_n 3, 1) := by decide +kernel
theorem dX9_costOfHeld_5 : decode cX9_costOfHeld 5 = .ok (.invokevirtual 173, 3) := by decide +kernel
theorem dX9_costOfHeld_8 : decode cX9_costOfHeld 8 = .ok (.ldc2_w 228, 3) := by decide +kernel
theorem dX9_costOfHeld_11 : decode cX9_costOfHeld 11 = .ok (.aload_n 0, 1) := by decide +kernel
theorem dX9_costOfHeld_12 : decode cX9_costOfHeld 12 = .ok (.getfield 67, 3) := by decide +kernel
theorem dX9_costOfHeld_15 : decode cX9_costOfHeld 15 = .ok (.getfield 346, 3) := by decide +kernel
theorem dX9_costOfHeld_18 : decode cX9_costOfHeld 18 = .ok (.iload_n 1, 1) := by decide +kernel
theorem dX9_costOfHeld_19 : decode cX9_costOfHeld 19 = .ok (.iaload, 1) := by decide +kernel
theorem dX9_costOfHeld_20 : decode cX9_costOfHeld 20 = .ok (.i2l, 1) := by decide +kernel
theorem dX9_costOfHeld_21 : decode cX9_costOfHeld 21 = .ok (.lmul, 1) := by decide +kernel
theorem dX9_costOfHeld_22 : decode cX9_costOfHeld 22 = .ok (.iload_n 2, 1) := by decide +kernel
theorem dX9_costOfHeld_23 : decode cX9_costOfHeld 23 = .ok (.iload_n 3, 1) := by decide +kernel
theorem dX9_costOfHeld_24 : decode cX9_costOfHeld 24 = .ok (.isub, 1) := by decide +kernel
theorem dX9_costOfHeld_25 : decode cX9_costOfHeld 25 = .ok (.i2l, 1) := by decide +kernel
theorem dX9_costOfHeld_26 : decode cX9_costOfHeld 26 = .ok (.lmul, 1) := by decide +kernel
theorem dX9_costOfHeld_27 : decode cX9_costOfHeld 27 = .ok (.ladd, 1) := by decide +kernel
theorem dX9_costOfHeld_28 : decode cX9_costOfHeld 28 = .ok (.lreturn, 1) := by decide +kernel
theorem dX9_costOfTwoStores_0 : decode cX9_costOfTwoStores 0 = .ok (.iload_n 2, 1) := by decide +kernel
theorem dX9_costOfTwoStores_1 : decode cX9_costOfTwoStores 1 = .ok (.iconst 2, 1) := by decide +kernel
theorem dX9_costOfTwoStores_2 : decode cX9_costOfTwoStores 2 = .ok (.idiv, 1) := by decide +kernel
theorem dX9_costOfTwoStores_3 : decode cX9_costOfTwoStores 3 = .ok (.istore 4, 2) := by decide +kernel
theorem dX9_costOfTwoStores_5 : decode cX9_costOfTwoStores 5 = .ok (.bipush 100, 2) := by decide +kernel
theorem dX9_costOfTwoStores_7 : decode cX9_costOfTwoStores 7 = .ok (.iload_n 3, 1) := by decide +kernel
theorem dX9_costOfTwoStores_8 : decode cX9_costOfTwoStores 8 = .ok (.isub, 1) := by decide +kernel
theorem dX9_costOfTwoStores_9 : decode cX9_costOfTwoStores 9 = .ok (.i2l, 1) := by decide +kernel
theorem dX9_costOfTwoStores_10 : decode cX9_costOfTwoStores 10 = .ok (.lstore 5, 2) := by decide +kernel
theorem dX9_costOfTwoStores_12 : decode cX9_costOfTwoStores 12 = .ok (.lload 5, 2) := by decide +kernel
theorem dX9_costOfTwoStores_14 : decode cX9_costOfTwoStores 14 = .ok (.lload 5, 2) := by decide +kernel
theorem dX9_costOfTwoStores_16 : decode cX9_costOfTwoStores 16 = .ok (.lmul, 1) := by decide +kernel
theorem dX9_costOfTwoStores_17 : decode cX9_costOfTwoStores 17 = .ok (.aload_n 0, 1) := by decide +kernel
theorem dX9_costOfTwoStores_18 : decode cX9_costOfTwoStores 18 = .ok (.getfield 23, 3) := by decide +kernel
theorem dX9_costOfTwoStores_21 : decode cX9_costOfTwoStores 21 = .ok (.iload_n 2, 1) := by decide +kernel
theorem dX9_costOfTwoStores_22 : decode cX9_costOfTwoStores 22 = .ok (.invokevirtual 173, 3) := by decide +kernel
theorem dX9_costOfTwoStores_25 : decode cX9_costOfTwoStores 25 = .ok (.lmul, 1) := by decide +kernel
theorem dX9_costOfTwoStores_26 : decode cX9_costOfTwoStores 26 = .ok (.lload 5, 2) := by decide +kernel
theorem dX9_costOfTwoStores_28 : decode cX9_costOfTwoStores 28 = .ok (.iload_n 3, 1) := by decide +kernel
theorem dX9_costOfTwoStores_29 : decode cX9_costOfTwoStores 29 = .ok (.i2l, 1) := by decide +kernel
theorem dX9_costOfTwoStores_30 : decode cX9_costOfTwoStores 30 = .ok (.lmul, 1) := by decide +kernel
theorem dX9_costOfTwoStores_31 : decode cX9_costOfTwoStores 31 = .ok (.aload_n 0, 1) := by decide +kernel
theorem dX9_costOfTwoStores_32 : decode cX9_costOfTwoStores 32 = .ok (.iload_n 1, 1) := by decide +kernel
theorem dX9_costOfTwoStores_33 : decode cX9_costOfTwoStores 33 = .ok (.iload_n 2, 1) := by decide +kernel
theorem dX9_costOfTwoStores_34 : decode cX9_costOfTwoStores 34 = .ok (.iload 4, 2) := by decide +kernel
theorem dX9_costOfTwoStores_36 : decode cX9_costOfTwoStores 36 = .ok (.invokevirtual 292, 3) := by decide +kernel
theorem dX9_costOfTwoStores_39 : decode cX9_costOfTwoStores 39 = .ok (.lmul, 1) := by decide +kernel
theorem dX9_costOfTwoStores_40 : decode cX9_costOfTwoStores 40 = .ok (.ladd, 1) := by decide +kernel
theorem dX9_costOfTwoStores_41 : decode cX9_costOfTwoStores 41 = .ok (.lload 5, 2) := by decide +kernel
theorem dX9_costOfTwoStores_43 : decode cX9_costOfTwoStores 43 = .ok (.iload_n 3, 1) := by decide +kernel
theorem dX9_costOfTwoStores_44 : decode cX9_costOfTwoStores 44 = .ok (.i2l, 1) := by decide +kernel
theorem dX9_costOfTwoStores_45 : decode cX9_costOfTwoStores 45 = .ok (.lmul, 1) := by decide +kernel
theorem dX9_costOfTwoStores_46 : decode cX9_costOfTwoStores 46 = .ok (.aload_n 0, 1) := by decide +kernel
theorem dX9_costOfTwoStores_47 : decode cX9_costOfTwoStores 47 = .ok (.iload_n 1, 1) := by decide +kernel
theorem dX9_costOfTwoStores_48 : decode cX9_costOfTwoStores 48 = .ok (.iload_n 2, 1) := by decide +kernel
theorem dX9_costOfTwoStores_49 : decode cX9_costOfTwoStores 49 = .ok (.iload_n 2, 1) := by decide +kernel
theorem dX9_costOfTwoStores_50 : decode cX9_costOfTwoStores 50 = .ok (.iload 4, 2) := by decide +kernel
theorem dX9_costOfTwoStores_52 : decode cX9_costOfTwoStores 52 = .ok (.isub, 1) := by decide +kernel
theorem dX9_costOfTwoStores_53 : decode cX9_costOfTwoStores 53 = .ok (.invokevirtual 292, 3) := by decide +kernel
theorem dX9_costOfTwoStores_56 : decode cX9_costOfTwoStores 56 = .ok (.lmul, 1) := by decide +kernel
theorem dX9_costOfTwoStores_57 : decode cX9_costOfTwoStores 57 = .ok (.ladd, 1) := by decide +kernel
theorem dX9_costOfTwoStores_58 : decode cX9_costOfTwoStores 58 = .ok (.iload_n 3, 1) := by decide +kernel
theorem dX9_costOfTwoStores_59 : decode cX9_costOfTwoStores 59 = .ok (.i2l, 1) := by decide +kernel
theorem dX9_costOfTwoStores_60 : decode cX9_costOfTwoStores 60 = .ok (.iload_n 3, 1) := by decide +kernel
theorem dX9_costOfTwoStores_61 : decode cX9_costOfTwoStores 61 = .ok (.i2l, 1) := by decide +kernel
theorem dX9_costOfTwoStores_62 : decode cX9_costOfTwoStores 62 = .ok (.lmul, 1) := by decide +kernel
theorem dX9_costOfTwoStores_63 : decode cX9_costOfTwoStores 63 = .ok (.aload_n 0, 1) := by decide +kernel
theorem dX9_costOfTwoStores_64 : decode cX9_costOfTwoStores 64 = .ok (.iload_n 1, 1) := by decide +kernel
theorem dX9_costOfTwoStores_65 : decode cX9_costOfTwoStores 65 = .ok (.iload_n 2, 1) := by decide +kernel
theorem dX9_costOfTwoStores_66 : decode cX9_costOfTwoStores 66 = .ok (.iconst 0, 1) := by decide +kernel
theorem dX9_costOfTwoStores_67 : decode cX9_costOfTwoStores 67 = .ok (.invokevirtual 292, 3) := by decide +kernel
theorem dX9_costOfTwoStores_70 : decode cX9_costOfTwoStores 70 = .ok (.lmul, 1) := by decide +kernel
theorem dX9_costOfTwoStores_71 : decode cX9_costOfTwoStores 71 = .ok (.ladd, 1) := by decide +kernel
theorem dX9_costOfTwoStores_72 : decode cX9_costOfTwoStores 72 = .ok (.ldc2_w 394, 3) := by decide +kernel
theorem dX9_costOfTwoStores_75 : decode cX9_costOfTwoStores 75 = .ok (.ldiv, 1) := by decide +kernel
theorem dX9_costOfTwoStores_76 : decode cX9_costOfTwoStores 76 = .ok (.lreturn, 1) := by decide +kernel
theorem dX9_burnt_0 : decode cX9_burnt 0 = .ok (.aload_n 0, 1) := by decide +kernel
theorem dX9_burnt_1 : decode cX9_burnt 1 = .ok (.getfield 67, 3) := by decide +kernel
theorem dX9_burnt_4 : decode cX9_burnt 4 = .ok (.iload_n 1, 1) := by decide +kernel
theorem dX9_burnt_5 : decode cX9_burnt 5 = .ok (.iload_n 2, 1) := by decide +kernel
theorem dX9_burnt_6 : decode cX9_burnt 6 = .ok (.invokevirtual 160, 3) := by decide +kernel
theorem dX9_burnt_9 : decode cX9_burnt 9 = .ok (.ifCond .eq 18, 3) := by decide +kernel
theorem dX9_burnt_12 : decode cX9_burnt 12 = .ok (.iload_n 3, 1) := by decide +kernel
theorem dX9_burnt_13 : decode cX9_burnt 13 = .ok (.invokestatic 167, 3) := by decide +kernel
theorem dX9_burnt_16 : decode cX9_burnt 16 = .ok (.ifCond .eq 11, 3) := by decide +kernel
theorem dX9_burnt_19 : decode cX9_burnt 19 = .ok (.iload 4, 2) := by decide +kernel
theorem dX9_burnt_21 : decode cX9_burnt 21 = .ok (.invokestatic 289, 3) := by decide +kernel
theorem dX9_burnt_24 : decode cX9_burnt 24 = .ok (.ifCond .ne 7, 3) := by decide +kernel
theorem dX9_burnt_31 : decode cX9_burnt 31 = .ok (.aload_n 0, 1) := by decide +kernel
theorem dX9_burnt_32 : decode cX9_burnt 32 = .ok (.getfield 23, 3) := by decide +kernel
theorem dX9_burnt_35 : decode cX9_burnt 35 = .ok (.aload_n 0, 1) := by decide +kernel
theorem dX9_burnt_36 : decode cX9_burnt 36 = .ok (.getfield 67, 3) := by decide +kernel
theorem dX9_burnt_39 : decode cX9_burnt 39 = .ok (.iload_n 1, 1) := by decide +kernel
theorem dX9_burnt_40 : decode cX9_burnt 40 = .ok (.iload_n 2, 1) := by decide +kernel
theorem dX9_burnt_41 : decode cX9_burnt 41 = .ok (.invokevirtual 170, 3) := by decide +kernel
theorem dX9_burnt_44 : decode cX9_burnt 44 = .ok (.bipush 100, 2) := by decide +kernel
theorem dX9_burnt_46 : decode cX9_burnt 46 = .ok (.iload 4, 2) := by decide +kernel
theorem dX9_burnt_48 : decode cX9_burnt 48 = .ok (.isub, 1) := by decide +kernel
theorem dX9_burnt_49 : decode cX9_burnt 49 = .ok (.i2l, 1) := by decide +kernel
theorem dX9_burnt_50 : decode cX9_burnt 50 = .ok (.aload_n 0, 1) := by decide +kernel
theorem dX9_burnt_51 : decode cX9_burnt 51 = .ok (.getfield 23, 3) := by decide +kernel
theorem dX9_burnt_54 : decode cX9_burnt 54 = .ok (.iload_n 3, 1) := by decide +kernel
theorem dX9_burnt_55 : decode cX9_burnt 55 = .ok (.invokevirtual 173, 3) := by decide +kernel
theorem dX9_burnt_58 : decode cX9_burnt 58 = .ok (.lmul, 1) := by decide +kernel
theorem dX9_burnt_59 : decode cX9_burnt 59 = .ok (.iload 4, 2) := by decide +kernel
theorem dX9_burnt_61 : decode cX9_burnt 61 = .ok (.i2l, 1) := by decide +kernel
theorem dX9_burnt_62 : decode cX9_burnt 62 = .ok (.aload_n 0, 1) := by decide +kernel
theorem dX9_burnt_63 : decode cX9_burnt 63 = .ok (.iload_n 2, 1) := by decide +kernel
theorem dX9_burnt_64 : decode cX9_burnt 64 = .ok (.iload_n 3, 1) := by decide +kernel
theorem dX9_burnt_65 : decode cX9_burnt 65 = .ok (.iconst 0, 1) := by decide +kernel
theorem dX9_burnt_66 : decode cX9_burnt 66 = .ok (.invokevirtual 292, 3) := by decide +kernel
theorem dX9_burnt_69 : decode cX9_burnt 69 = .ok (.lmul, 1) := by decide +kernel
theorem dX9_burnt_70 : decode cX9_burnt 70 = .ok (.ladd, 1) := by decide +kernel
theorem dX9_burnt_71 : decode cX9_burnt 71 = .ok (.ldc2_w 296, 3) := by decide +kernel
theorem dX9_burnt_74 : decode cX9_burnt 74 = .ok (.ldiv, 1) := by decide +kernel
theorem dX9_burnt_75 : decode cX9_burnt 75 = .ok (.lreturn, 1) := by decide +kernel
theorem dX9_burnt_27 : decode cX9_burnt 27 = .ok (.ldc2_w 106, 3) := by decide +kernel
theorem dX9_burnt_30 : decode cX9_burnt 30 = .ok (.lreturn, 1) := by decide +kernel
theorem dX9_spread_0 : decode cX9_spread 0 = .ok (.aload_n 0, 1) := by decide +kernel
theorem dX9_spread_1 : decode cX9_spread 1 = .ok (.getfield 67, 3) := by decide +kernel
theorem dX9_spread_4 : decode cX9_spread 4 = .ok (.iload_n 1, 1) := by decide +kernel
theorem dX9_spread_5 : decode cX9_spread 5 = .ok (.iload_n 2, 1) := by decide +kernel
theorem dX9_spread_6 : decode cX9_spread 6 = .ok (.invokevirtual 160, 3) := by decide +kernel
theorem dX9_spread_9 : decode cX9_spread 9 = .ok (.ifCond .eq 18, 3) := by decide +kernel
theorem dX9_spread_12 : decode cX9_spread 12 = .ok (.iload_n 3, 1) := by decide +kernel
theorem dX9_spread_13 : decode cX9_spread 13 = .ok (.invokestatic 167, 3) := by decide +kernel
theorem dX9_spread_16 : decode cX9_spread 16 = .ok (.ifCond .eq 11, 3) := by decide +kernel
theorem dX9_spread_19 : decode cX9_spread 19 = .ok (.iload 4, 2) := by decide +kernel
theorem dX9_spread_21 : decode cX9_spread 21 = .ok (.invokestatic 289, 3) := by decide +kernel
theorem dX9_spread_24 : decode cX9_spread 24 = .ok (.ifCond .ne 7, 3) := by decide +kernel
theorem dX9_spread_31 : decode cX9_spread 31 = .ok (.aload_n 0, 1) := by decide +kernel
theorem dX9_spread_32 : decode cX9_spread 32 = .ok (.getfield 23, 3) := by decide +kernel
theorem dX9_spread_35 : decode cX9_spread 35 = .ok (.aload_n 0, 1) := by decide +kernel
theorem dX9_spread_36 : decode cX9_spread 36 = .ok (.getfield 67, 3) := by decide +kernel
theorem dX9_spread_39 : decode cX9_spread 39 = .ok (.iload_n 1, 1) := by decide +kernel
theorem dX9_spread_40 : decode cX9_spread 40 = .ok (.iload_n 2, 1) := by decide +kernel
theorem dX9_spread_41 : decode cX9_spread 41 = .ok (.invokevirtual 170, 3) := by decide +kernel
theorem dX9_spread_44 : decode cX9_spread 44 = .ok (.aload_n 0, 1) := by decide +kernel
theorem dX9_spread_45 : decode cX9_spread 45 = .ok (.iload_n 2, 1) := by decide +kernel
theorem dX9_spread_46 : decode cX9_spread 46 = .ok (.iload_n 3, 1) := by decide +kernel
theorem dX9_spread_47 : decode cX9_spread 47 = .ok (.iload 4, 2) := by decide +kernel
theorem dX9_spread_49 : decode cX9_spread 49 = .ok (.invokevirtual 298, 3) := by decide +kernel
theorem dX9_spread_52 : decode cX9_spread 52 = .ok (.lreturn, 1) := by decide +kernel
theorem dX9_spread_27 : decode cX9_spread 27 = .ok (.ldc2_w 106, 3) := by decide +kernel
theorem dX9_spread_30 : decode cX9_spread 30 = .ok (.lreturn, 1) := by decide +kernel
theorem dX9_bear_0 : decode cX9_bear 0 = .ok (.aload_n 0, 1) := by decide +kernel
theorem dX9_bear_1 : decode cX9_bear 1 = .ok (.getfield 67, 3) := by decide +kernel
theorem dX9_bear_4 : decode cX9_bear 4 = .ok (.iload_n 1, 1) := by decide +kernel
theorem dX9_bear_5 : decode cX9_bear 5 = .ok (.iload_n 2, 1) := by decide +kernel
theorem dX9_bear_6 : decode cX9_bear 6 = .ok (.invokevirtual 160, 3) := by decide +kernel
theorem dX9_bear_9 : decode cX9_bear 9 = .ok (.ifCond .eq 10, 3) := by decide +kernel
theorem dX9_bear_12 : decode cX9_bear 12 = .ok (.iload_n 3, 1) := by decide +kernel
theorem dX9_bear_13 : decode cX9_bear 13 = .ok (.invokestatic 289, 3) := by decide +kernel
theorem dX9_bear_16 : decode cX9_bear 16 = .ok (.ifCond .ne 6, 3) := by decide +kernel
theorem dX9_bear_22 : decode cX9_bear 22 = .ok (.aload_n 0, 1) := by decide +kernel
theorem dX9_bear_23 : decode cX9_bear 23 = .ok (.getfield 23, 3) := by decide +kernel
theorem dX9_bear_26 : decode cX9_bear 26 = .ok (.aload_n 0, 1) := by decide +kernel
theorem dX9_bear_27 : decode cX9_bear 27 = .ok (.getfield 67, 3) := by decide +kernel
theorem dX9_bear_30 : decode cX9_bear 30 = .ok (.iload_n 1, 1) := by decide +kernel
theorem dX9_bear_31 : decode cX9_bear 31 = .ok (.iload_n 2, 1) := by decide +kernel
theorem dX9_bear_32 : decode cX9_bear 32 = .ok (.invokevirtual 170, 3) := by decide +kernel
theorem dX9_bear_35 : decode cX9_bear 35 = .ok (.iconst 0, 1) := by decide +kernel
theorem dX9_bear_36 : decode cX9_bear 36 = .ok (.istore 4, 2) := by decide +kernel
theorem dX9_bear_38 : decode cX9_bear 38 = .ok (.aload_n 0, 1) := by decide +kernel
theorem dX9_bear_39 : decode cX9_bear 39 = .ok (.iload_n 2, 1) := by decide +kernel
theorem dX9_bear_40 : decode cX9_bear 40 = .ok (.iconst 0, 1) := by decide +kernel
theorem dX9_bear_41 : decode cX9_bear 41 = .ok (.iload_n 3, 1) := by decide +kernel
theorem dX9_bear_42 : decode cX9_bear 42 = .ok (.invokevirtual 298, 3) := by decide +kernel
theorem dX9_bear_45 : decode cX9_bear 45 = .ok (.lstore 5, 2) := by decide +kernel
theorem dX9_bear_47 : decode cX9_bear 47 = .ok (.iconst 1, 1) := by decide +kernel
theorem dX9_bear_48 : decode cX9_bear 48 = .ok (.istore 7, 2) := by decide +kernel
theorem dX9_bear_50 : decode cX9_bear 50 = .ok (.iload 7, 2) := by decide +kernel
theorem dX9_bear_52 : decode cX9_bear 52 = .ok (.sipush 999, 3) := by decide +kernel
theorem dX9_bear_55 : decode cX9_bear 55 = .ok (.if_icmp .gt 35, 3) := by decide +kernel
theorem dX9_bear_90 : decode cX9_bear 90 = .ok (.iload 4, 2) := by decide +kernel
theorem dX9_bear_92 : decode cX9_bear 92 = .ok (.ireturn, 1) := by decide +kernel
theorem dX9_bear_58 : decode cX9_bear 58 = .ok (.aload_n 0, 1) := by decide +kernel
theorem dX9_bear_59 : decode cX9_bear 59 = .ok (.iload_n 2, 1) := by decide +kernel
theorem dX9_bear_60 : decode cX9_bear 60 = .ok (.iload 7, 2) := by decide +kernel
theorem dX9_bear_62 : decode cX9_bear 62 = .ok (.iload_n 3, 1) := by decide +kernel
theorem dX9_bear_63 : decode cX9_bear 63 = .ok (.invokevirtual 298, 3) := by decide +kernel
theorem dX9_bear_66 : decode cX9_bear 66 = .ok (.lstore 8, 2) := by decide +kernel
theorem dX9_bear_68 : decode cX9_bear 68 = .ok (.lload 8, 2) := by decide +kernel
theorem dX9_bear_70 : decode cX9_bear 70 = .ok (.lload 5, 2) := by decide +kernel
theorem dX9_bear_72 : decode cX9_bear 72 = .ok (.lcmp, 1) := by decide +kernel
theorem dX9_bear_73 : decode cX9_bear 73 = .ok (.ifCond .ge 11, 3) := by decide +kernel
theorem dX9_bear_84 : decode cX9_bear 84 = .ok (.iinc 7 1, 3) := by decide +kernel
theorem dX9_bear_87 : decode cX9_bear 87 = .ok (.goto (-37), 3) := by decide +kernel
theorem dX9_bear_76 : decode cX9_bear 76 = .ok (.lload 8, 2) := by decide +kernel
theorem dX9_bear_78 : decode cX9_bear 78 = .ok (.lstore 5, 2) := by decide +kernel
theorem dX9_bear_80 : decode cX9_bear 80 = .ok (.iload 7, 2) := by decide +kernel
theorem dX9_bear_82 : decode cX9_bear 82 = .ok (.istore 4, 2) := by decide +kernel
theorem dX9_bear_19 : decode cX9_bear 19 = .ok (.bipush (-2), 2) := by decide +kernel
theorem dX9_bear_21 : decode cX9_bear 21 = .ok (.ireturn, 1) := by decide +kernel
theorem dX9_shut_0 : decode cX9_shut 0 = .ok (.aload_n 0, 1) := by decide +kernel
theorem dX9_shut_1 : decode cX9_shut 1 = .ok (.getfield 67, 3) := by decide +kernel
theorem dX9_shut_4 : decode cX9_shut 4 = .ok (.iload_n 1, 1) := by decide +kernel
theorem dX9_shut_5 : decode cX9_shut 5 = .ok (.invokevirtual 99, 3) := by decide +kernel
theorem dX9_shut_8 : decode cX9_shut 8 = .ok (.ifCond .ne 6, 3) := by decide +kernel
theorem dX9_shut_14 : decode cX9_shut 14 = .ok (.aload_n 0, 1) := by decide +kernel
theorem dX9_shut_15 : decode cX9_shut 15 = .ok (.getfield 93, 3) := by decide +kernel
theorem dX9_shut_18 : decode cX9_shut 18 = .ok (.ifnonnull 7, 3) := by decide +kernel
theorem dX9_shut_21 : decode cX9_shut 21 = .ok (.iconst (-1), 1) := by decide +kernel
theorem dX9_shut_22 : decode cX9_shut 22 = .ok (.goto 9, 3) := by decide +kernel
theorem dX9_shut_31 : decode cX9_shut 31 = .ok (.ireturn, 1) := by decide +kernel
theorem dX9_shut_25 : decode cX9_shut 25 = .ok (.aload_n 0, 1) := by decide +kernel
theorem dX9_shut_26 : decode cX9_shut 26 = .ok (.getfield 93, 3) := by decide +kernel
theorem dX9_shut_29 : decode cX9_shut 29 = .ok (.iload_n 1, 1) := by decide +kernel
theorem dX9_shut_30 : decode cX9_shut 30 = .ok (.iaload, 1) := by decide +kernel
theorem dX9_shut_11 : decode cX9_shut 11 = .ok (.bipush (-2), 2) := by decide +kernel
theorem dX9_shut_13 : decode cX9_shut 13 = .ok (.ireturn, 1) := by decide +kernel
theorem dX9_lacks_0 : decode cX9_lacks 0 = .ok (.aload_n 0, 1) := by decide +kernel
theorem dX9_lacks_1 : decode cX9_lacks 1 = .ok (.getfield 67, 3) := by decide +kernel
theorem dX9_lacks_4 : decode cX9_lacks 4 = .ok (.iload_n 1, 1) := by decide +kernel
theorem dX9_lacks_5 : decode cX9_lacks 5 = .ok (.iload_n 2, 1) := by decide +kernel
theorem dX9_lacks_6 : decode cX9_lacks 6 = .ok (.invokevirtual 160, 3) := by decide +kernel
theorem dX9_lacks_9 : decode cX9_lacks 9 = .ok (.ifCond .eq 21, 3) := by decide +kernel
theorem dX9_lacks_12 : decode cX9_lacks 12 = .ok (.iload_n 3, 1) := by decide +kernel
theorem dX9_lacks_13 : decode cX9_lacks 13 = .ok (.invokestatic 167, 3) := by decide +kernel
theorem dX9_lacks_16 : decode cX9_lacks 16 = .ok (.ifCond .eq 14, 3) := by decide +kernel
theorem dX9_lacks_19 : decode cX9_lacks 19 = .ok (.iload 4, 2) := by decide +kernel
theorem dX9_lacks_21 : decode cX9_lacks 21 = .ok (.ifCond .lt 9, 3) := by decide +kernel
theorem dX9_lacks_30 : decode cX9_lacks 30 = .ok (.bipush (-2), 2) := by decide +kernel
theorem dX9_lacks_32 : decode cX9_lacks 32 = .ok (.ireturn, 1) := by decide +kernel
theorem dX9_lacks_24 : decode cX9_lacks 24 = .ok (.iload 4, 2) := by decide +kernel
theorem dX9_lacks_26 : decode cX9_lacks 26 = .ok (.iconst 2, 1) := by decide +kernel
theorem dX9_lacks_27 : decode cX9_lacks 27 = .ok (.if_icmp .le 6, 3) := by decide +kernel
theorem dX9_lacks_33 : decode cX9_lacks 33 = .ok (.aload_n 0, 1) := by decide +kernel
theorem dX9_lacks_34 : decode cX9_lacks 34 = .ok (.getfield 93, 3) := by decide +kernel
theorem dX9_lacks_37 : decode cX9_lacks 37 = .ok (.ifnonnull 5, 3) := by decide +kernel
theorem dX9_lacks_40 : decode cX9_lacks 40 = .ok (.iconst (-1), 1) := by decide +kernel
theorem dX9_lacks_41 : decode cX9_lacks 41 = .ok (.ireturn, 1) := by decide +kernel
theorem dX9_lacks_42 : decode cX9_lacks 42 = .ok (.aload_n 0, 1) := by decide +kernel
theorem dX9_lacks_43 : decode cX9_lacks 43 = .ok (.getfield 93, 3) := by decide +kernel
theorem dX9_lacks_46 : decode cX9_lacks 46 = .ok (.iload_n 1, 1) := by decide +kernel
theorem dX9_lacks_47 : decode cX9_lacks 47 = .ok (.iaload, 1) := by decide +kernel
theorem dX9_lacks_48 : decode cX9_lacks 48 = .ok (.istore 5, 2) := by decide +kernel
theorem dX9_lacks_50 : decode cX9_lacks 50 = .ok (.aload_n 0, 1) := by decide +kernel
theorem dX9_lacks_51 : decode cX9_lacks 51 = .ok (.getfield 67, 3) := by decide +kernel
theorem dX9_lacks_54 : decode cX9_lacks 54 = .ok (.iload_n 1, 1) := by decide +kernel
theorem dX9_lacks_55 : decode cX9_lacks 55 = .ok (.iload_n 2, 1) := by decide +kernel
theorem dX9_lacks_56 : decode cX9_lacks 56 = .ok (.iload 5, 2) := by decide +kernel
theorem dX9_lacks_58 : decode cX9_lacks 58 = .ok (.invokevirtual 163, 3) := by decide +kernel
theorem dX9_lacks_61 : decode cX9_lacks 61 = .ok (.istore 6, 2) := by decide +kernel
theorem dX9_lacks_63 : decode cX9_lacks 63 = .ok (.iload 4, 2) := by decide +kernel
theorem dX9_lacks_65 : decode cX9_lacks 65 = .ok (.ifCond .ne 12, 3) := by decide +kernel
theorem dX9_lacks_77 : decode cX9_lacks 77 = .ok (.iload 4, 2) := by decide +kernel
theorem dX9_lacks_79 : decode cX9_lacks 79 = .ok (.iconst 1, 1) := by decide +kernel
theorem dX9_lacks_80 : decode cX9_lacks 80 = .ok (.if_icmp .ne 12, 3) := by decide +kernel
theorem dX9_lacks_92 : decode cX9_lacks 92 = .ok (.aload_n 0, 1) := by decide +kernel
theorem dX9_lacks_93 : decode cX9_lacks 93 = .ok (.getfield 67, 3) := by decide +kernel
theorem dX9_lacks_96 : decode cX9_lacks 96 = .ok (.iload_n 1, 1) := by decide +kernel
theorem dX9_lacks_97 : decode cX9_lacks 97 = .ok (.iload_n 2, 1) := by decide +kernel
theorem dX9_lacks_98 : decode cX9_lacks 98 = .ok (.iload 5, 2) := by decide +kernel
theorem dX9_lacks_100 : decode cX9_lacks 100 = .ok (.iload_n 3, 1) := by decide +kernel
theorem dX9_lacks_101 : decode cX9_lacks 101 = .ok (.invokevirtual 330, 3) := by decide +kernel
theorem dX9_lacks_104 : decode cX9_lacks 104 = .ok (.ireturn, 1) := by decide +kernel
theorem dX9_lacks_83 : decode cX9_lacks 83 = .ok (.iconst 0, 1) := by decide +kernel
theorem dX9_lacks_84 : decode cX9_lacks 84 = .ok (.iload_n 3, 1) := by decide +kernel
theorem dX9_lacks_85 : decode cX9_lacks 85 = .ok (.iload 6, 2) := by decide +kernel
theorem dX9_lacks_87 : decode cX9_lacks 87 = .ok (.isub, 1) := by decide +kernel
theorem dX9_lacks_88 : decode cX9_lacks 88 = .ok (.invokestatic 327, 3) := by decide +kernel
theorem dX9_lacks_91 : decode cX9_lacks 91 = .ok (.ireturn, 1) := by decide +kernel
theorem dX9_lacks_68 : decode cX9_lacks 68 = .ok (.iconst 0, 1) := by decide +kernel
theorem dX9_lacks_69 : decode cX9_lacks 69 = .ok (.iload 6, 2) := by decide +kernel
theorem dX9_lacks_71 : decode cX9_lacks 71 = .ok (.iload_n 3, 1) := by decide +kernel
theorem dX9_lacks_72 : decode cX9_lacks 72 = .ok (.isub, 1) := by decide +kernel
theorem dX9_lacks_73 : decode cX9_lacks 73 = .ok (.invokestatic 327, 3) := by decide +kernel
theorem dX9_lacks_76 : decode cX9_lacks 76 = .ok (.ireturn, 1) := by decide +kernel
theorem dX9_judge_0 : decode cX9_judge 0 = .ok (.iload_n 1, 1) := by decide +kernel
theorem dX9_judge_1 : decode cX9_judge 1 = .ok (.invokestatic 312, 3) := by decide +kernel
theorem dX9_judge_4 : decode cX9_judge 4 = .ok (.ifCond .eq 14, 3) := by decide +kernel
theorem dX9_judge_7 : decode cX9_judge 7 = .ok (.aload_n 0, 1) := by decide +kernel
theorem dX9_judge_8 : decode cX9_judge 8 = .ok (.getfield 67, 3) := by decide +kernel
theorem dX9_judge_11 : decode cX9_judge 11 = .ok (.iload_n 2, 1) := by decide +kernel
theorem dX9_judge_12 : decode cX9_judge 12 = .ok (.invokevirtual 99, 3) := by decide +kernel
theorem dX9_judge_15 : decode cX9_judge 15 = .ok (.ifCond .ne 6, 3) := by decide +kernel
theorem dX9_judge_21 : decode cX9_judge 21 = .ok (.aload_n 0, 1) := by decide +kernel
theorem dX9_judge_22 : decode cX9_judge 22 = .ok (.getfield 93, 3) := by decide +kernel
theorem dX9_judge_25 : decode cX9_judge 25 = .ok (.ifnonnull 5, 3) := by decide +kernel
theorem dX9_judge_28 : decode cX9_judge 28 = .ok (.iconst (-1), 1) := by decide +kernel
theorem dX9_judge_29 : decode cX9_judge 29 = .ok (.ireturn, 1) := by decide +kernel
theorem dX9_judge_30 : decode cX9_judge 30 = .ok (.aload_n 0, 1) := by decide +kernel
theorem dX9_judge_31 : decode cX9_judge 31 = .ok (.getfield 54, 3) := by decide +kernel
theorem dX9_judge_34 : decode cX9_judge 34 = .ok (.iload_n 1, 1) := by decide +kernel
theorem dX9_judge_35 : decode cX9_judge 35 = .ok (.aaload, 1) := by decide +kernel
theorem dX9_judge_36 : decode cX9_judge 36 = .ok (.astore_n 3, 1) := by decide +kernel
theorem dX9_judge_37 : decode cX9_judge 37 = .ok (.aload_n 3, 1) := by decide +kernel
theorem dX9_judge_38 : decode cX9_judge 38 = .ok (.ifnonnull 6, 3) := by decide +kernel
theorem dX9_judge_41 : decode cX9_judge 41 = .ok (.bipush (-6), 2) := by decide +kernel
theorem dX9_judge_43 : decode cX9_judge 43 = .ok (.ireturn, 1) := by decide +kernel
theorem dX9_judge_44 : decode cX9_judge 44 = .ok (.aload_n 3, 1) := by decide +kernel
theorem dX9_judge_45 : decode cX9_judge 45 = .ok (.getfield 315, 3) := by decide +kernel
theorem dX9_judge_48 : decode cX9_judge 48 = .ok (.arraylength, 1) := by decide +kernel
theorem dX9_judge_49 : decode cX9_judge 49 = .ok (.aload_n 0, 1) := by decide +kernel
theorem dX9_judge_50 : decode cX9_judge 50 = .ok (.getfield 67, 3) := by decide +kernel
theorem dX9_judge_53 : decode cX9_judge 53 = .ok (.getfield 155, 3) := by decide +kernel
theorem dX9_judge_56 : decode cX9_judge 56 = .ok (.if_icmp .le 6, 3) := by decide +kernel
theorem dX9_judge_62 : decode cX9_judge 62 = .ok (.aload_n 0, 1) := by decide +kernel
theorem dX9_judge_63 : decode cX9_judge 63 = .ok (.getfield 67, 3) := by decide +kernel
theorem dX9_judge_66 : decode cX9_judge 66 = .ok (.aload_n 3, 1) := by decide +kernel
theorem dX9_judge_67 : decode cX9_judge 67 = .ok (.getfield 315, 3) := by decide +kernel
theorem dX9_judge_70 : decode cX9_judge 70 = .ok (.aload_n 0, 1) := by decide +kernel
theorem dX9_judge_71 : decode cX9_judge 71 = .ok (.getfield 93, 3) := by decide +kernel
theorem dX9_judge_74 : decode cX9_judge 74 = .ok (.iload_n 2, 1) := by decide +kernel
theorem dX9_judge_75 : decode cX9_judge 75 = .ok (.iaload, 1) := by decide +kernel
theorem dX9_judge_76 : decode cX9_judge 76 = .ok (.invokevirtual 333, 3) := by decide +kernel
theorem dX9_judge_79 : decode cX9_judge 79 = .ok (.ireturn, 1) := by decide +kernel
theorem dX9_judge_59 : decode cX9_judge 59 = .ok (.bipush (-2), 2) := by decide +kernel
theorem dX9_judge_61 : decode cX9_judge 61 = .ok (.ireturn, 1) := by decide +kernel
theorem dX9_judge_18 : decode cX9_judge 18 = .ok (.bipush (-2), 2) := by decide +kernel
theorem dX9_judge_20 : decode cX9_judge 20 = .ok (.ireturn, 1) := by decide +kernel
theorem dX9_paid_0 : decode cX9_paid 0 = .ok (.iload_n 1, 1) := by decide +kernel
theorem dX9_paid_1 : decode cX9_paid 1 = .ok (.invokestatic 312, 3) := by decide +kernel
theorem dX9_paid_4 : decode cX9_paid 4 = .ok (.ifCond .eq 22, 3) := by decide +kernel
theorem dX9_paid_7 : decode cX9_paid 7 = .ok (.aload_n 0, 1) := by decide +kernel
theorem dX9_paid_8 : decode cX9_paid 8 = .ok (.getfield 67, 3) := by decide +kernel
theorem dX9_paid_11 : decode cX9_paid 11 = .ok (.iload_n 2, 1) := by decide +kernel
theorem dX9_paid_12 : decode cX9_paid 12 = .ok (.iload_n 3, 1) := by decide +kernel
theorem dX9_paid_13 : decode cX9_paid 13 = .ok (.invokevirtual 160, 3) := by decide +kernel
theorem dX9_paid_16 : decode cX9_paid 16 = .ok (.ifCond .eq 10, 3) := by decide +kernel
theorem dX9_paid_19 : decode cX9_paid 19 = .ok (.aload_n 0, 1) := by decide +kernel
theorem dX9_paid_20 : decode cX9_paid 20 = .ok (.getfield 93, 3) := by decide +kernel
theorem dX9_paid_23 : decode cX9_paid 23 = .ok (.ifnonnull 7, 3) := by decide +kernel
theorem dX9_paid_26 : decode cX9_paid 26 = .ok (.ldc2_w 176, 3) := by decide +kernel
theorem dX9_paid_29 : decode cX9_paid 29 = .ok (.lreturn, 1) := by decide +kernel
theorem dX9_paid_30 : decode cX9_paid 30 = .ok (.aload_n 0, 1) := by decide +kernel
theorem dX9_paid_31 : decode cX9_paid 31 = .ok (.getfield 54, 3) := by decide +kernel
theorem dX9_paid_34 : decode cX9_paid 34 = .ok (.iload_n 1, 1) := by decide +kernel
theorem dX9_paid_35 : decode cX9_paid 35 = .ok (.aaload, 1) := by decide +kernel
theorem dX9_paid_36 : decode cX9_paid 36 = .ok (.astore 4, 2) := by decide +kernel
theorem dX9_paid_38 : decode cX9_paid 38 = .ok (.aload 4, 2) := by decide +kernel
theorem dX9_paid_40 : decode cX9_paid 40 = .ok (.ifnull 19, 3) := by decide +kernel
theorem dX9_paid_59 : decode cX9_paid 59 = .ok (.ldc2_w 176, 3) := by decide +kernel
theorem dX9_paid_62 : decode cX9_paid 62 = .ok (.lreturn, 1) := by decide +kernel
theorem dX9_paid_43 : decode cX9_paid 43 = .ok (.aload 4, 2) := by decide +kernel
theorem dX9_paid_45 : decode cX9_paid 45 = .ok (.getfield 315, 3) := by decide +kernel
theorem dX9_paid_48 : decode cX9_paid 48 = .ok (.arraylength, 1) := by decide +kernel
theorem dX9_paid_49 : decode cX9_paid 49 = .ok (.aload_n 0, 1) := by decide +kernel
theorem dX9_paid_50 : decode cX9_paid 50 = .ok (.getfield 67, 3) := by decide +kernel
theorem dX9_paid_53 : decode cX9_paid 53 = .ok (.getfield 155, 3) := by decide +kernel
theorem dX9_paid_56 : decode cX9_paid 56 = .ok (.if_icmp .le 7, 3) := by decide +kernel
theorem dX9_paid_63 : decode cX9_paid 63 = .ok (.aload_n 0, 1) := by decide +kernel
theorem dX9_paid_64 : decode cX9_paid 64 = .ok (.getfield 67, 3) := by decide +kernel
theorem dX9_paid_67 : decode cX9_paid 67 = .ok (.aload 4, 2) := by decide +kernel
theorem dX9_paid_69 : decode cX9_paid 69 = .ok (.getfield 315, 3) := by decide +kernel
theorem dX9_paid_72 : decode cX9_paid 72 = .ok (.aload_n 0, 1) := by decide +kernel
theorem dX9_paid_73 : decode cX9_paid 73 = .ok (.getfield 93, 3) := by decide +kernel
theorem dX9_paid_76 : decode cX9_paid 76 = .ok (.iload_n 2, 1) := by decide +kernel
theorem dX9_paid_77 : decode cX9_paid 77 = .ok (.iaload, 1) := by decide +kernel
theorem dX9_paid_78 : decode cX9_paid 78 = .ok (.invokevirtual 333, 3) := by decide +kernel
theorem dX9_paid_81 : decode cX9_paid 81 = .ok (.ifCond .eq 7, 3) := by decide +kernel
theorem dX9_paid_88 : decode cX9_paid 88 = .ok (.aload 4, 2) := by decide +kernel
theorem dX9_paid_90 : decode cX9_paid 90 = .ok (.invokevirtual 337, 3) := by decide +kernel
theorem dX9_paid_93 : decode cX9_paid 93 = .ok (.lstore 5, 2) := by decide +kernel
theorem dX9_paid_95 : decode cX9_paid 95 = .ok (.lload 5, 2) := by decide +kernel
theorem dX9_paid_97 : decode cX9_paid 97 = .ok (.aload_n 0, 1) := by decide +kernel
theorem dX9_paid_98 : decode cX9_paid 98 = .ok (.getfield 67, 3) := by decide +kernel
theorem dX9_paid_101 : decode cX9_paid 101 = .ok (.getfield 341, 3) := by decide +kernel
theorem dX9_paid_104 : decode cX9_paid 104 = .ok (.i2l, 1) := by decide +kernel
theorem dX9_paid_105 : decode cX9_paid 105 = .ok (.lmul, 1) := by decide +kernel
theorem dX9_paid_106 : decode cX9_paid 106 = .ok (.lstore 7, 2) := by decide +kernel
theorem dX9_paid_108 : decode cX9_paid 108 = .ok (.aload_n 0, 1) := by decide +kernel
theorem dX9_paid_109 : decode cX9_paid 109 = .ok (.getfield 67, 3) := by decide +kernel
theorem dX9_paid_112 : decode cX9_paid 112 = .ok (.iload_n 2, 1) := by decide +kernel
theorem dX9_paid_113 : decode cX9_paid 113 = .ok (.iload_n 3, 1) := by decide +kernel
theorem dX9_paid_114 : decode cX9_paid 114 = .ok (.aload_n 0, 1) := by decide +kernel
theorem dX9_paid_115 : decode cX9_paid 115 = .ok (.getfield 93, 3) := by decide +kernel
theorem dX9_paid_118 : decode cX9_paid 118 = .ok (.iload_n 2, 1) := by decide +kernel
theorem dX9_paid_119 : decode cX9_paid 119 = .ok (.iaload, 1) := by decide +kernel
theorem dX9_paid_120 : decode cX9_paid 120 = .ok (.invokevirtual 163, 3) := by decide +kernel
theorem dX9_paid_123 : decode cX9_paid 123 = .ok (.i2l, 1) := by decide +kernel
theorem dX9_paid_124 : decode cX9_paid 124 = .ok (.lstore 9, 2) := by decide +kernel
theorem dX9_paid_126 : decode cX9_paid 126 = .ok (.lconst 0, 1) := by decide +kernel
theorem dX9_paid_127 : decode cX9_paid 127 = .ok (.lload 9, 2) := by decide +kernel
theorem dX9_paid_129 : decode cX9_paid 129 = .ok (.lload 7, 2) := by decide +kernel
theorem dX9_paid_131 : decode cX9_paid 131 = .ok (.lsub, 1) := by decide +kernel
theorem dX9_paid_132 : decode cX9_paid 132 = .ok (.invokestatic 344, 3) := by decide +kernel
theorem dX9_paid_135 : decode cX9_paid 135 = .ok (.lstore 11, 2) := by decide +kernel
theorem dX9_paid_137 : decode cX9_paid 137 = .ok (.lconst 0, 1) := by decide +kernel
theorem dX9_paid_138 : decode cX9_paid 138 = .ok (.lload 7, 2) := by decide +kernel
theorem dX9_paid_140 : decode cX9_paid 140 = .ok (.lload 9, 2) := by decide +kernel
theorem dX9_paid_142 : decode cX9_paid 142 = .ok (.lsub, 1) := by decide +kernel
theorem dX9_paid_143 : decode cX9_paid 143 = .ok (.invokestatic 344, 3) := by decide +kernel
theorem dX9_paid_146 : decode cX9_paid 146 = .ok (.lstore 13, 2) := by decide +kernel
theorem dX9_paid_148 : decode cX9_paid 148 = .ok (.ldc2_w 228, 3) := by decide +kernel
theorem dX9_paid_151 : decode cX9_paid 151 = .ok (.lload 5, 2) := by decide +kernel
theorem dX9_paid_153 : decode cX9_paid 153 = .ok (.aload_n 0, 1) := by decide +kernel
theorem dX9_paid_154 : decode cX9_paid 154 = .ok (.getfield 67, 3) := by decide +kernel
theorem dX9_paid_157 : decode cX9_paid 157 = .ok (.getfield 230, 3) := by decide +kernel
theorem dX9_paid_160 : decode cX9_paid 160 = .ok (.i2l, 1) := by decide +kernel
theorem dX9_paid_161 : decode cX9_paid 161 = .ok (.lmul, 1) := by decide +kernel
theorem dX9_paid_162 : decode cX9_paid 162 = .ok (.lload 7, 2) := by decide +kernel
theorem dX9_paid_164 : decode cX9_paid 164 = .ok (.aload_n 0, 1) := by decide +kernel
theorem dX9_paid_165 : decode cX9_paid 165 = .ok (.getfield 67, 3) := by decide +kernel
theorem dX9_paid_168 : decode cX9_paid 168 = .ok (.getfield 346, 3) := by decide +kernel
theorem dX9_paid_171 : decode cX9_paid 171 = .ok (.iload_n 3, 1) := by decide +kernel
theorem dX9_paid_172 : decode cX9_paid 172 = .ok (.iaload, 1) := by decide +kernel
theorem dX9_paid_173 : decode cX9_paid 173 = .ok (.i2l, 1) := by decide +kernel
theorem dX9_paid_174 : decode cX9_paid 174 = .ok (.lmul, 1) := by decide +kernel
theorem dX9_paid_175 : decode cX9_paid 175 = .ok (.ladd, 1) := by decide +kernel
theorem dX9_paid_176 : decode cX9_paid 176 = .ok (.lload 11, 2) := by decide +kernel
theorem dX9_paid_178 : decode cX9_paid 178 = .ok (.aload_n 0, 1) := by decide +kernel
theorem dX9_paid_179 : decode cX9_paid 179 = .ok (.getfield 67, 3) := by decide +kernel
theorem dX9_paid_182 : decode cX9_paid 182 = .ok (.getfield 251, 3) := by decide +kernel
theorem dX9_paid_185 : decode cX9_paid 185 = .ok (.iload_n 3, 1) := by decide +kernel
theorem dX9_paid_186 : decode cX9_paid 186 = .ok (.iaload, 1) := by decide +kernel
theorem dX9_paid_187 : decode cX9_paid 187 = .ok (.i2l, 1) := by decide +kernel
theorem dX9_paid_188 : decode cX9_paid 188 = .ok (.lmul, 1) := by decide +kernel
theorem dX9_paid_189 : decode cX9_paid 189 = .ok (.ladd, 1) := by decide +kernel
theorem dX9_paid_190 : decode cX9_paid 190 = .ok (.lload 13, 2) := by decide +kernel
theorem dX9_paid_192 : decode cX9_paid 192 = .ok (.aload_n 0, 1) := by decide +kernel
theorem dX9_paid_193 : decode cX9_paid 193 = .ok (.getfield 67, 3) := by decide +kernel
theorem dX9_paid_196 : decode cX9_paid 196 = .ok (.getfield 349, 3) := by decide +kernel
theorem dX9_paid_199 : decode cX9_paid 199 = .ok (.iload_n 3, 1) := by decide +kernel
theorem dX9_paid_200 : decode cX9_paid 200 = .ok (.iaload, 1) := by decide +kernel
theorem dX9_paid_201 : decode cX9_paid 201 = .ok (.i2l, 1) := by decide +kernel
theorem dX9_paid_202 : decode cX9_paid 202 = .ok (.lmul, 1) := by decide +kernel
theorem dX9_paid_203 : decode cX9_paid 203 = .ok (.ladd, 1) := by decide +kernel
theorem dX9_paid_204 : decode cX9_paid 204 = .ok (.lmul, 1) := by decide +kernel
theorem dX9_paid_205 : decode cX9_paid 205 = .ok (.lreturn, 1) := by decide +kernel
theorem dX9_paid_84 : decode cX9_paid 84 = .ok (.ldc2_w 176, 3) := by decide +kernel
theorem dX9_paid_87 : decode cX9_paid 87 = .ok (.lreturn, 1) := by decide +kernel
theorem dX9_years_0 : decode cX9_years 0 = .ok (.iload_n 1, 1) := by decide +kernel
theorem dX9_years_1 : decode cX9_years 1 = .ok (.invokestatic 301, 3) := by decide +kernel
theorem dX9_years_4 : decode cX9_years 4 = .ok (.ifCond .eq 25, 3) := by decide +kernel
theorem dX9_years_7 : decode cX9_years 7 = .ok (.iload_n 2, 1) := by decide +kernel
theorem dX9_years_8 : decode cX9_years 8 = .ok (.iconst 1, 1) := by decide +kernel
theorem dX9_years_9 : decode cX9_years 9 = .ok (.if_icmp .lt 20, 3) := by decide +kernel
theorem dX9_years_29 : decode cX9_years 29 = .ok (.bipush (-2), 2) := by decide +kernel
theorem dX9_years_31 : decode cX9_years 31 = .ok (.ireturn, 1) := by decide +kernel
theorem dX9_years_12 : decode cX9_years 12 = .ok (.iload_n 2, 1) := by decide +kernel
theorem dX9_years_13 : decode cX9_years 13 = .ok (.bipush 100, 2) := by decide +kernel
theorem dX9_years_15 : decode cX9_years 15 = .ok (.if_icmp .gt 14, 3) := by decide +kernel
theorem dX9_years_18 : decode cX9_years 18 = .ok (.iload 6, 2) := by decide +kernel
theorem dX9_years_20 : decode cX9_years 20 = .ok (.ifCond .lt 9, 3) := by decide +kernel
theorem dX9_years_23 : decode cX9_years 23 = .ok (.iload 6, 2) := by decide +kernel
theorem dX9_years_25 : decode cX9_years 25 = .ok (.iconst 3, 1) := by decide +kernel
theorem dX9_years_26 : decode cX9_years 26 = .ok (.if_icmp .le 6, 3) := by decide +kernel
theorem dX9_years_32 : decode cX9_years 32 = .ok (.aload_n 0, 1) := by decide +kernel
theorem dX9_years_33 : decode cX9_years 33 = .ok (.getfield 67, 3) := by decide +kernel
theorem dX9_years_36 : decode cX9_years 36 = .ok (.iload_n 3, 1) := by decide +kernel
theorem dX9_years_37 : decode cX9_years 37 = .ok (.iload 4, 2) := by decide +kernel
theorem dX9_years_39 : decode cX9_years 39 = .ok (.invokevirtual 160, 3) := by decide +kernel
theorem dX9_years_42 : decode cX9_years 42 = .ok (.ifCond .eq 11, 3) := by decide +kernel
theorem dX9_years_45 : decode cX9_years 45 = .ok (.iload 5, 2) := by decide +kernel
theorem dX9_years_47 : decode cX9_years 47 = .ok (.invokestatic 167, 3) := by decide +kernel
theorem dX9_years_50 : decode cX9_years 50 = .ok (.ifCond .ne 6, 3) := by decide +kernel
theorem dX9_years_56 : decode cX9_years 56 = .ok (.iconst 0, 1) := by decide +kernel
theorem dX9_years_57 : decode cX9_years 57 = .ok (.istore 7, 2) := by decide +kernel
theorem dX9_years_59 : decode cX9_years 59 = .ok (.iconst 0, 1) := by decide +kernel
theorem dX9_years_60 : decode cX9_years 60 = .ok (.istore 8, 2) := by decide +kernel
theorem dX9_years_62 : decode cX9_years 62 = .ok (.iload 8, 2) := by decide +kernel
theorem dX9_years_64 : decode cX9_years 64 = .ok (.iload_n 2, 1) := by decide +kernel
theorem dX9_years_65 : decode cX9_years 65 = .ok (.if_icmp .ge 132, 3) := by decide +kernel
theorem dX9_years_197 : decode cX9_years 197 = .ok (.iload 7, 2) := by decide +kernel
theorem dX9_years_199 : decode cX9_years 199 = .ok (.ireturn, 1) := by decide +kernel
theorem dX9_years_68 : decode cX9_years 68 = .ok (.aload_n 0, 1) := by decide +kernel
theorem dX9_years_69 : decode cX9_years 69 = .ok (.getfield 44, 3) := by decide +kernel
theorem dX9_years_72 : decode cX9_years 72 = .ok (.aload_n 0, 1) := by decide +kernel
theorem dX9_years_73 : decode cX9_years 73 = .ok (.getfield 67, 3) := by decide +kernel
theorem dX9_years_76 : decode cX9_years 76 = .ok (.iload_n 1, 1) := by decide +kernel
theorem dX9_years_77 : decode cX9_years 77 = .ok (.iload 8, 2) := by decide +kernel
theorem dX9_years_79 : decode cX9_years 79 = .ok (.iadd, 1) := by decide +kernel
theorem dX9_years_80 : decode cX9_years 80 = .ok (.aload_n 0, 1) := by decide +kernel
theorem dX9_years_81 : decode cX9_years 81 = .ok (.getfield 48, 3) := by decide +kernel
theorem dX9_years_84 : decode cX9_years 84 = .ok (.invokevirtual 304, 3) := by decide +kernel
theorem dX9_years_87 : decode cX9_years 87 = .ok (.aload_n 0, 1) := by decide +kernel
theorem dX9_years_88 : decode cX9_years 88 = .ok (.getfield 67, 3) := by decide +kernel
theorem dX9_years_91 : decode cX9_years 91 = .ok (.iload_n 3, 1) := by decide +kernel
theorem dX9_years_92 : decode cX9_years 92 = .ok (.iload 4, 2) := by decide +kernel
theorem dX9_years_94 : decode cX9_years 94 = .ok (.aload_n 0, 1) := by decide +kernel
theorem dX9_years_95 : decode cX9_years 95 = .ok (.getfield 48, 3) := by decide +kernel
theorem dX9_years_98 : decode cX9_years 98 = .ok (.iload_n 3, 1) := by decide +kernel
theorem dX9_years_99 : decode cX9_years 99 = .ok (.iaload, 1) := by decide +kernel
theorem dX9_years_100 : decode cX9_years 100 = .ok (.invokevirtual 163, 3) := by decide +kernel
theorem dX9_years_103 : decode cX9_years 103 = .ok (.istore 9, 2) := by decide +kernel
theorem dX9_years_105 : decode cX9_years 105 = .ok (.iconst 0, 1) := by decide +kernel
theorem dX9_years_106 : decode cX9_years 106 = .ok (.iload 9, 2) := by decide +kernel
theorem dX9_years_108 : decode cX9_years 108 = .ok (.iload 5, 2) := by decide +kernel
theorem dX9_years_110 : decode cX9_years 110 = .ok (.isub, 1) := by decide +kernel
theorem dX9_years_111 : decode cX9_years 111 = .ok (.invokestatic 327, 3) := by decide +kernel
theorem dX9_years_114 : decode cX9_years 114 = .ok (.istore 10, 2) := by decide +kernel
theorem dX9_years_116 : decode cX9_years 116 = .ok (.iload 6, 2) := by decide +kernel
theorem dX9_years_118 : decode cX9_years 118 = .ok (.ifCond .ne 25, 3) := by decide +kernel
theorem dX9_years_143 : decode cX9_years 143 = .ok (.iload 6, 2) := by decide +kernel
theorem dX9_years_145 : decode cX9_years 145 = .ok (.iconst 1, 1) := by decide +kernel
theorem dX9_years_146 : decode cX9_years 146 = .ok (.if_icmp .ne 13, 3) := by decide +kernel
theorem dX9_years_159 : decode cX9_years 159 = .ok (.iload 6, 2) := by decide +kernel
theorem dX9_years_161 : decode cX9_years 161 = .ok (.iconst 2, 1) := by decide +kernel
theorem dX9_years_162 : decode cX9_years 162 = .ok (.if_icmp .ne 15, 3) := by decide +kernel
theorem dX9_years_177 : decode cX9_years 177 = .ok (.iload 7, 2) := by decide +kernel
theorem dX9_years_179 : decode cX9_years 179 = .ok (.iconst 0, 1) := by decide +kernel
theorem dX9_years_180 : decode cX9_years 180 = .ok (.iload 5, 2) := by decide +kernel
theorem dX9_years_182 : decode cX9_years 182 = .ok (.iload 9, 2) := by decide +kernel
theorem dX9_years_184 : decode cX9_years 184 = .ok (.isub, 1) := by decide +kernel
theorem dX9_years_185 : decode cX9_years 185 = .ok (.invokestatic 327, 3) := by decide +kernel
theorem dX9_years_188 : decode cX9_years 188 = .ok (.iadd, 1) := by decide +kernel
theorem dX9_years_189 : decode cX9_years 189 = .ok (.istore 7, 2) := by decide +kernel
theorem dX9_years_191 : decode cX9_years 191 = .ok (.iinc 8 1, 3) := by decide +kernel
theorem dX9_years_194 : decode cX9_years 194 = .ok (.goto (-132), 3) := by decide +kernel
theorem dX9_years_165 : decode cX9_years 165 = .ok (.iload 7, 2) := by decide +kernel
theorem dX9_years_167 : decode cX9_years 167 = .ok (.iload 10, 2) := by decide +kernel
theorem dX9_years_169 : decode cX9_years 169 = .ok (.invokestatic 327, 3) := by decide +kernel
theorem dX9_years_172 : decode cX9_years 172 = .ok (.istore 7, 2) := by decide +kernel
theorem dX9_years_174 : decode cX9_years 174 = .ok (.goto 17, 3) := by decide +kernel
theorem dX9_years_149 : decode cX9_years 149 = .ok (.iload 7, 2) := by decide +kernel
theorem dX9_years_151 : decode cX9_years 151 = .ok (.iload 10, 2) := by decide +kernel
theorem dX9_years_153 : decode cX9_years 153 = .ok (.iadd, 1) := by decide +kernel
theorem dX9_years_154 : decode cX9_years 154 = .ok (.istore 7, 2) := by decide +kernel
theorem dX9_years_156 : decode cX9_years 156 = .ok (.goto 35, 3) := by decide +kernel
theorem dX9_years_121 : decode cX9_years 121 = .ok (.iload 7, 2) := by decide +kernel
theorem dX9_years_123 : decode cX9_years 123 = .ok (.aload_n 0, 1) := by decide +kernel
theorem dX9_years_124 : decode cX9_years 124 = .ok (.getfield 48, 3) := by decide +kernel
theorem dX9_years_127 : decode cX9_years 127 = .ok (.iload_n 3, 1) := by decide +kernel
theorem dX9_years_128 : decode cX9_years 128 = .ok (.iaload, 1) := by decide +kernel
theorem dX9_years_129 : decode cX9_years 129 = .ok (.ifCond .ne 7, 3) := by decide +kernel
theorem dX9_years_136 : decode cX9_years 136 = .ok (.iconst 1, 1) := by decide +kernel
theorem dX9_years_137 : decode cX9_years 137 = .ok (.iadd, 1) := by decide +kernel
theorem dX9_years_138 : decode cX9_years 138 = .ok (.istore 7, 2) := by decide +kernel
theorem dX9_years_140 : decode cX9_years 140 = .ok (.goto 51, 3) := by decide +kernel
theorem dX9_years_132 : decode cX9_years 132 = .ok (.iconst 0, 1) := by decide +kernel
theorem dX9_years_133 : decode cX9_years 133 = .ok (.goto 4, 3) := by decide +kernel
theorem dX9_years_53 : decode cX9_years 53 = .ok (.bipush (-2), 2) := by decide +kernel
theorem dX9_years_55 : decode cX9_years 55 = .ok (.ireturn, 1) := by decide +kernel
theorem dX9_count_0 : decode cX9_count 0 = .ok (.iload_n 1, 1) := by decide +kernel
theorem dX9_count_1 : decode cX9_count 1 = .ok (.tableswitch 110 0 7 #[47, 55, 63, 71, 79, 87, 92, 105], 47) := by decide +kernel
theorem dX9_count_111 : decode cX9_count 111 = .ok (.iconst (-1), 1) := by decide +kernel
theorem dX9_count_112 : decode cX9_count 112 = .ok (.ireturn, 1) := by decide +kernel
theorem dX9_count_48 : decode cX9_count 48 = .ok (.aload_n 0, 1) := by decide +kernel
theorem dX9_count_49 : decode cX9_count 49 = .ok (.getfield 67, 3) := by decide +kernel
theorem dX9_count_52 : decode cX9_count 52 = .ok (.getfield 137, 3) := by decide +kernel
theorem dX9_count_55 : decode cX9_count 55 = .ok (.ireturn, 1) := by decide +kernel
theorem dX9_count_56 : decode cX9_count 56 = .ok (.aload_n 0, 1) := by decide +kernel
theorem dX9_count_57 : decode cX9_count 57 = .ok (.getfield 67, 3) := by decide +kernel
theorem dX9_count_60 : decode cX9_count 60 = .ok (.getfield 202, 3) := by decide +kernel
theorem dX9_count_63 : decode cX9_count 63 = .ok (.ireturn, 1) := by decide +kernel
theorem dX9_count_64 : decode cX9_count 64 = .ok (.aload_n 0, 1) := by decide +kernel
theorem dX9_count_65 : decode cX9_count 65 = .ok (.getfield 67, 3) := by decide +kernel
theorem dX9_count_68 : decode cX9_count 68 = .ok (.getfield 155, 3) := by decide +kernel
theorem dX9_count_71 : decode cX9_count 71 = .ok (.ireturn, 1) := by decide +kernel
theorem dX9_count_72 : decode cX9_count 72 = .ok (.aload_n 0, 1) := by decide +kernel
theorem dX9_count_73 : decode cX9_count 73 = .ok (.getfield 67, 3) := by decide +kernel
theorem dX9_count_76 : decode cX9_count 76 = .ok (.getfield 96, 3) := by decide +kernel
theorem dX9_count_79 : decode cX9_count 79 = .ok (.ireturn, 1) := by decide +kernel
theorem dX9_count_80 : decode cX9_count 80 = .ok (.aload_n 0, 1) := by decide +kernel
theorem dX9_count_81 : decode cX9_count 81 = .ok (.getfield 67, 3) := by decide +kernel
theorem dX9_count_84 : decode cX9_count 84 = .ok (.getfield 352, 3) := by decide +kernel
theorem dX9_count_87 : decode cX9_count 87 = .ok (.ireturn, 1) := by decide +kernel
theorem dX9_count_88 : decode cX9_count 88 = .ok (.aload_n 0, 1) := by decide +kernel
theorem dX9_count_89 : decode cX9_count 89 = .ok (.getfield 75, 3) := by decide +kernel
theorem dX9_count_92 : decode cX9_count 92 = .ok (.ireturn, 1) := by decide +kernel
theorem dX9_count_93 : decode cX9_count 93 = .ok (.aload_n 0, 1) := by decide +kernel
theorem dX9_count_94 : decode cX9_count 94 = .ok (.getfield 93, 3) := by decide +kernel
theorem dX9_count_97 : decode cX9_count 97 = .ok (.ifnonnull 7, 3) := by decide +kernel
theorem dX9_count_100 : decode cX9_count 100 = .ok (.iconst 0, 1) := by decide +kernel
theorem dX9_count_101 : decode cX9_count 101 = .ok (.goto 4, 3) := by decide +kernel
theorem dX9_count_105 : decode cX9_count 105 = .ok (.ireturn, 1) := by decide +kernel
theorem dX9_count_104 : decode cX9_count 104 = .ok (.iconst 1, 1) := by decide +kernel
theorem dX9_count_106 : decode cX9_count 106 = .ok (.aload_n 0, 1) := by decide +kernel
theorem dX9_count_107 : decode cX9_count 107 = .ok (.invokevirtual 355, 3) := by decide +kernel
theorem dX9_count_110 : decode cX9_count 110 = .ok (.ireturn, 1) := by decide +kernel
theorem dX9_back_0 : decode cX9_back 0 = .ok (.iload_n 1, 1) := by decide +kernel
theorem dX9_back_1 : decode cX9_back 1 = .ok (.ifCond .lt 8, 3) := by decide +kernel
theorem dX9_back_9 : decode cX9_back 9 = .ok (.bipush (-2), 2) := by decide +kernel
theorem dX9_back_11 : decode cX9_back 11 = .ok (.ireturn, 1) := by decide +kernel
theorem dX9_back_4 : decode cX9_back 4 = .ok (.iload_n 1, 1) := by decide +kernel
theorem dX9_back_5 : decode cX9_back 5 = .ok (.iconst 3, 1) := by decide +kernel
theorem dX9_back_6 : decode cX9_back 6 = .ok (.if_icmp .lt 6, 3) := by decide +kernel
theorem dX9_back_12 : decode cX9_back 12 = .ok (.aload_n 0, 1) := by decide +kernel
theorem dX9_back_13 : decode cX9_back 13 = .ok (.getfield 60, 3) := by decide +kernel
theorem dX9_back_16 : decode cX9_back 16 = .ok (.iload_n 1, 1) := by decide +kernel
theorem dX9_back_17 : decode cX9_back 17 = .ok (.aaload, 1) := by decide +kernel
theorem dX9_back_18 : decode cX9_back 18 = .ok (.astore_n 2, 1) := by decide +kernel
theorem dX9_back_19 : decode cX9_back 19 = .ok (.aload_n 2, 1) := by decide +kernel
theorem dX9_back_20 : decode cX9_back 20 = .ok (.ifnonnull 6, 3) := by decide +kernel
theorem dX9_back_23 : decode cX9_back 23 = .ok (.bipush (-6), 2) := by decide +kernel
theorem dX9_back_25 : decode cX9_back 25 = .ok (.ireturn, 1) := by decide +kernel
theorem dX9_back_26 : decode cX9_back 26 = .ok (.aload_n 0, 1) := by decide +kernel
theorem dX9_back_27 : decode cX9_back 27 = .ok (.aload_n 2, 1) := by decide +kernel
theorem dX9_back_28 : decode cX9_back 28 = .ok (.getfield 362, 3) := by decide +kernel
theorem dX9_back_31 : decode cX9_back 31 = .ok (.putfield 67, 3) := by decide +kernel
theorem dX9_back_34 : decode cX9_back 34 = .ok (.aload_n 0, 1) := by decide +kernel
theorem dX9_back_35 : decode cX9_back 35 = .ok (.aload_n 2, 1) := by decide +kernel
theorem dX9_back_36 : decode cX9_back 36 = .ok (.getfield 363, 3) := by decide +kernel
theorem dX9_back_39 : decode cX9_back 39 = .ok (.putfield 93, 3) := by decide +kernel
theorem dX9_back_42 : decode cX9_back 42 = .ok (.iconst 0, 1) := by decide +kernel
theorem dX9_back_43 : decode cX9_back 43 = .ok (.ireturn, 1) := by decide +kernel
theorem dX9_write_0 : decode cX9_write 0 = .ok (.iload_n 1, 1) := by decide +kernel
theorem dX9_write_1 : decode cX9_write 1 = .ok (.invokestatic 312, 3) := by decide +kernel
theorem dX9_write_4 : decode cX9_write 4 = .ok (.ifCond .ne 6, 3) := by decide +kernel
theorem dX9_write_10 : decode cX9_write 10 = .ok (.aload_n 0, 1) := by decide +kernel
theorem dX9_write_11 : decode cX9_write 11 = .ok (.getfield 54, 3) := by decide +kernel
theorem dX9_write_14 : decode cX9_write 14 = .ok (.iload_n 1, 1) := by decide +kernel
theorem dX9_write_15 : decode cX9_write 15 = .ok (.aaload, 1) := by decide +kernel
theorem dX9_write_16 : decode cX9_write 16 = .ok (.astore 5, 2) := by decide +kernel
theorem dX9_write_18 : decode cX9_write 18 = .ok (.aload 5, 2) := by decide +kernel
theorem dX9_write_20 : decode cX9_write 20 = .ok (.ifnonnull 6, 3) := by decide +kernel
theorem dX9_write_23 : decode cX9_write 23 = .ok (.bipush (-6), 2) := by decide +kernel
theorem dX9_write_25 : decode cX9_write 25 = .ok (.ireturn, 1) := by decide +kernel
theorem dX9_write_26 : decode cX9_write 26 = .ok (.iload_n 2, 1) := by decide +kernel
theorem dX9_write_27 : decode cX9_write 27 = .ok (.ifCond .lt 13, 3) := by decide +kernel
theorem dX9_write_40 : decode cX9_write 40 = .ok (.bipush (-7), 2) := by decide +kernel
theorem dX9_write_42 : decode cX9_write 42 = .ok (.ireturn, 1) := by decide +kernel
theorem dX9_write_30 : decode cX9_write 30 = .ok (.iload_n 2, 1) := by decide +kernel
theorem dX9_write_31 : decode cX9_write 31 = .ok (.aload 5, 2) := by decide +kernel
theorem dX9_write_33 : decode cX9_write 33 = .ok (.getfield 315, 3) := by decide +kernel
theorem dX9_write_36 : decode cX9_write 36 = .ok (.arraylength, 1) := by decide +kernel
theorem dX9_write_37 : decode cX9_write 37 = .ok (.if_icmp .lt 6, 3) := by decide +kernel
theorem dX9_write_43 : decode cX9_write 43 = .ok (.aload 5, 2) := by decide +kernel
theorem dX9_write_45 : decode cX9_write 45 = .ok (.getfield 315, 3) := by decide +kernel
theorem dX9_write_48 : decode cX9_write 48 = .ok (.iload_n 2, 1) := by decide +kernel
theorem dX9_write_49 : decode cX9_write 49 = .ok (.aload 5, 2) := by decide +kernel
theorem dX9_write_51 : decode cX9_write 51 = .ok (.lload_n 3, 1) := by decide +kernel
theorem dX9_write_52 : decode cX9_write 52 = .ok (.invokevirtual 367, 3) := by decide +kernel
theorem dX9_write_55 : decode cX9_write 55 = .ok (.lastore, 1) := by decide +kernel
theorem dX9_write_56 : decode cX9_write 56 = .ok (.iconst 0, 1) := by decide +kernel
theorem dX9_write_57 : decode cX9_write 57 = .ok (.ireturn, 1) := by decide +kernel
theorem dX9_write_7 : decode cX9_write 7 = .ok (.bipush (-2), 2) := by decide +kernel
theorem dX9_write_9 : decode cX9_write 9 = .ok (.ireturn, 1) := by decide +kernel
theorem dX9_paste_0 : decode cX9_paste 0 = .ok (.iload_n 1, 1) := by decide +kernel
theorem dX9_paste_1 : decode cX9_paste 1 = .ok (.invokestatic 312, 3) := by decide +kernel
theorem dX9_paste_4 : decode cX9_paste 4 = .ok (.ifCond .eq 10, 3) := by decide +kernel
theorem dX9_paste_7 : decode cX9_paste 7 = .ok (.iload_n 3, 1) := by decide +kernel
theorem dX9_paste_8 : decode cX9_paste 8 = .ok (.invokestatic 312, 3) := by decide +kernel
theorem dX9_paste_11 : decode cX9_paste 11 = .ok (.ifCond .ne 6, 3) := by decide +kernel
theorem dX9_paste_17 : decode cX9_paste 17 = .ok (.aload_n 0, 1) := by decide +kernel
theorem dX9_paste_18 : decode cX9_paste 18 = .ok (.getfield 54, 3) := by decide +kernel
theorem dX9_paste_21 : decode cX9_paste 21 = .ok (.iload_n 1, 1) := by decide +kernel
theorem dX9_paste_22 : decode cX9_paste 22 = .ok (.aaload, 1) := by decide +kernel
theorem dX9_paste_23 : decode cX9_paste 23 = .ok (.astore 6, 2) := by decide +kernel
theorem dX9_paste_25 : decode cX9_paste 25 = .ok (.aload_n 0, 1) := by decide +kernel
theorem dX9_paste_26 : decode cX9_paste 26 = .ok (.getfield 54, 3) := by decide +kernel
theorem dX9_paste_29 : decode cX9_paste 29 = .ok (.iload_n 3, 1) := by decide +kernel
theorem dX9_paste_30 : decode cX9_paste 30 = .ok (.aaload, 1) := by decide +kernel
theorem dX9_paste_31 : decode cX9_paste 31 = .ok (.astore 7, 2) := by decide +kernel
theorem dX9_paste_33 : decode cX9_paste 33 = .ok (.aload 6, 2) := by decide +kernel
theorem dX9_paste_35 : decode cX9_paste 35 = .ok (.ifnull 8, 3) := by decide +kernel
theorem dX9_paste_43 : decode cX9_paste 43 = .ok (.bipush (-6), 2) := by decide +kernel
theorem dX9_paste_45 : decode cX9_paste 45 = .ok (.ireturn, 1) := by decide +kernel
theorem dX9_paste_38 : decode cX9_paste 38 = .ok (.aload 7, 2) := by decide +kernel
theorem dX9_paste_40 : decode cX9_paste 40 = .ok (.ifnonnull 6, 3) := by decide +kernel
theorem dX9_paste_46 : decode cX9_paste 46 = .ok (.aload 6, 2) := by decide +kernel
theorem dX9_paste_48 : decode cX9_paste 48 = .ok (.getfield 371, 3) := by decide +kernel
theorem dX9_paste_51 : decode cX9_paste 51 = .ok (.aload 7, 2) := by decide +kernel
theorem dX9_paste_53 : decode cX9_paste 53 = .ok (.getfield 371, 3) := by decide +kernel
theorem dX9_paste_56 : decode cX9_paste 56 = .ok (.if_icmp .eq 6, 3) := by decide +kernel
theorem dX9_paste_62 : decode cX9_paste 62 = .ok (.aload 6, 2) := by decide +kernel
theorem dX9_paste_64 : decode cX9_paste 64 = .ok (.iload_n 2, 1) := by decide +kernel
theorem dX9_paste_65 : decode cX9_paste 65 = .ok (.iload 5, 2) := by decide +kernel
theorem dX9_paste_67 : decode cX9_paste 67 = .ok (.invokevirtual 374, 3) := by decide +kernel
theorem dX9_paste_70 : decode cX9_paste 70 = .ok (.ifCond .eq 15, 3) := by decide +kernel
theorem dX9_paste_73 : decode cX9_paste 73 = .ok (.aload 7, 2) := by decide +kernel
theorem dX9_paste_75 : decode cX9_paste 75 = .ok (.iload 4, 2) := by decide +kernel
theorem dX9_paste_77 : decode cX9_paste 77 = .ok (.iload 5, 2) := by decide +kernel
theorem dX9_paste_79 : decode cX9_paste 79 = .ok (.invokevirtual 374, 3) := by decide +kernel
theorem dX9_paste_82 : decode cX9_paste 82 = .ok (.ifCond .ne 6, 3) := by decide +kernel
theorem dX9_paste_88 : decode cX9_paste 88 = .ok (.aload 6, 2) := by decide +kernel
theorem dX9_paste_90 : decode cX9_paste 90 = .ok (.getfield 315, 3) := by decide +kernel
theorem dX9_paste_93 : decode cX9_paste 93 = .ok (.iload_n 2, 1) := by decide +kernel
theorem dX9_paste_94 : decode cX9_paste 94 = .ok (.aload 7, 2) := by decide +kernel
theorem dX9_paste_96 : decode cX9_paste 96 = .ok (.getfield 315, 3) := by decide +kernel
theorem dX9_paste_99 : decode cX9_paste 99 = .ok (.iload 4, 2) := by decide +kernel
theorem dX9_paste_101 : decode cX9_paste 101 = .ok (.iload 5, 2) := by decide +kernel
theorem dX9_paste_103 : decode cX9_paste 103 = .ok (.invokestatic 377, 3) := by decide +kernel
theorem dX9_paste_106 : decode cX9_paste 106 = .ok (.iconst 0, 1) := by decide +kernel
theorem dX9_paste_107 : decode cX9_paste 107 = .ok (.ireturn, 1) := by decide +kernel
theorem dX9_paste_85 : decode cX9_paste 85 = .ok (.bipush (-7), 2) := by decide +kernel
theorem dX9_paste_87 : decode cX9_paste 87 = .ok (.ireturn, 1) := by decide +kernel
theorem dX9_paste_59 : decode cX9_paste 59 = .ok (.bipush (-8), 2) := by decide +kernel
theorem dX9_paste_61 : decode cX9_paste 61 = .ok (.ireturn, 1) := by decide +kernel
theorem dX9_paste_14 : decode cX9_paste 14 = .ok (.bipush (-2), 2) := by decide +kernel
theorem dX9_paste_16 : decode cX9_paste 16 = .ok (.ireturn, 1) := by decide +kernel
theorem sV_X9_242 : SiteV RX9 242 yX2_hasThing cX2_hasThing 2 (some .boolean) 1 := ⟨ml_X9_242, im_X2_hasThing, se_X2_hasThing, ini_X2, co_X2_hasThing, by decide +kernel⟩
theorem sV_X9_245 : SiteV RX9 245 yX8_layFork cX8_layFork 8 none 4 := ⟨ml_X9_245, im_X8_layFork, se_X8_layFork, ini_X8, co_X8_layFork, by decide +kernel⟩
theorem sV_X9_248 : SiteV RX9 248 yX8_flownWhole cX8_flownWhole 11 (some .long) 3 := ⟨ml_X9_248, im_X8_flownWhole, se_X8_flownWhole, ini_X8, co_X8_flownWhole, by decide +kernel⟩
theorem sV_X9_260 : SiteV RX9 260 yX2_pathBetween cX2_pathBetween 3 (some .int) 2 := ⟨ml_X9_260, im_X2_pathBetween, se_X2_pathBetween, ini_X2, co_X2_pathBetween, by decide +kernel⟩
theorem sV_X9_264 : SiteV RX9 264 yX8_layPath cX8_layPath 9 none 4 := ⟨ml_X9_264, im_X8_layPath, se_X8_layPath, ini_X8, co_X8_layPath, by decide +kernel⟩
theorem sV_X9_267 : SiteV RX9 267 yX2_fedDays cX2_fedDays 6 (some .int) 4 := ⟨ml_X9_267, im_X2_fedDays, se_X2_fedDays, ini_X2, co_X2_fedDays, by decide +kernel⟩
theorem sS_X9_312 : SiteS RX9 312 yX9_isSlot cX9_isSlot 1 (some .boolean) 1 := ⟨ml_X9_312, st_X9_isSlot, ini_X9, co_X9_isSlot, by decide +kernel⟩
theorem sV_X9_319 : SiteV RX9 319 yX6_within cX6_within 6 (some .boolean) 2 := ⟨ml_X9_319, im_X6_within, se_X6_within, ini_X6, co_X6_within, by decide +kernel⟩
theorem sV_X9_387 : SiteV RX9 387 yX7_take cX7_take 3 none 1 := ⟨ml_X9_387, im_X7_take, se_X7_take, ini_X7, co_X7_take, by decide +kernel⟩
theorem sV_X9_273 : SiteV RX9 273 yX9_shareState cX9_shareState 6 (some .int) 4 := ⟨ml_X9_273, im_X9_shareState, se_X9_shareState, ini_X9, co_X9_shareState, by decide +kernel⟩
theorem sV_X9_276 : SiteV RX9 276 yX7_part cX7_part 4 (some .int) 3 := ⟨ml_X9_276, im_X7_part, se_X7_part, ini_X7, co_X7_part, by decide +kernel⟩
theorem sV_X9_391 : SiteV RX9 391 yX7_partIfAsked cX7_partIfAsked 7 (some .int) 4 := ⟨ml_X9_391, im_X7_partIfAsked, se_X7_partIfAsked, ini_X7, co_X7_partIfAsked, by decide +kernel⟩
theorem sV_X9_282 : SiteV RX9 282 yX8_lossWhole cX8_lossWhole 8 (some .long) 3 := ⟨ml_X9_282, im_X8_lossWhole, se_X8_lossWhole, ini_X8, co_X8_lossWhole, by decide +kernel⟩
theorem sV_X9_285 : SiteV RX9 285 yX9_lossIfAsked cX9_lossIfAsked 6 (some .long) 5 := ⟨ml_X9_285, im_X9_lossIfAsked, se_X9_lossIfAsked, ini_X9, co_X9_lossIfAsked, by decide +kernel⟩
theorem sV_X9_279 : SiteV RX9 279 yX9_bestAsked cX9_bestAsked 11 (some .int) 4 := ⟨ml_X9_279, im_X9_bestAsked, se_X9_bestAsked, ini_X9, co_X9_bestAsked, by decide +kernel⟩
theorem sV_X9_292 : SiteV RX9 292 yX9_costOfHeld cX9_costOfHeld 4 (some .long) 3 := ⟨ml_X9_292, im_X9_costOfHeld, se_X9_costOfHeld, ini_X9, co_X9_costOfHeld, by decide +kernel⟩
theorem sS_X9_289 : SiteS RX9 289 yX9_isHundredth cX9_isHundredth 1 (some .boolean) 1 := ⟨ml_X9_289, st_X9_isHundredth, ini_X9, co_X9_isHundredth, by decide +kernel⟩
theorem sV_X9_298 : SiteV RX9 298 yX9_costOfTwoStores cX9_costOfTwoStores 7 (some .long) 3 := ⟨ml_X9_298, im_X9_costOfTwoStores, se_X9_costOfTwoStores, ini_X9, co_X9_costOfTwoStores, by decide +kernel⟩
theorem sV_X9_330 : SiteV RX9 330 yX2_firstLacking cX2_firstLacking 6 (some .int) 4 := ⟨ml_X9_330, im_X2_firstLacking, se_X2_firstLacking, ini_X2, co_X2_firstLacking, by decide +kernel⟩
theorem sV_X9_333 : SiteV RX9 333 yX2_firstWrong cX2_firstWrong 5 (some .int) 2 := ⟨ml_X9_333, im_X2_firstWrong, se_X2_firstWrong, ini_X2, co_X2_firstWrong, by decide +kernel⟩
theorem sV_X9_337 : SiteV RX9 337 yX6_total cX6_total 4 (some .long) 0 := ⟨ml_X9_337, im_X6_total, se_X6_total, ini_X6, co_X6_total, by decide +kernel⟩
theorem sS_X9_301 : SiteS RX9 301 yX9_isSeed cX9_isSeed 1 (some .boolean) 1 := ⟨ml_X9_301, st_X9_isSeed, ini_X9, co_X9_isSeed, by decide +kernel⟩
theorem sV_X9_304 : SiteV RX9 304 yX0_drawYear cX0_drawYear 7 none 3 := ⟨ml_X9_304, im_X0_drawYear, se_X0_drawYear, ini_X0, co_X0_drawYear, by decide +kernel⟩
theorem sV_X9_355 : SiteV RX9 355 yX9_slotsInUse cX9_slotsInUse 3 (some .int) 0 := ⟨ml_X9_355, im_X9_slotsInUse, se_X9_slotsInUse, ini_X9, co_X9_slotsInUse, by decide +kernel⟩
theorem sV_X9_367 : SiteV RX9 367 yX6_narrowed cX6_narrowed 3 (some .long) 1 := ⟨ml_X9_367, im_X6_narrowed, se_X6_narrowed, ini_X6, co_X6_narrowed, by decide +kernel⟩
theorem sV_X9_374 : SiteV RX9 374 yX6_has cX6_has 3 (some .boolean) 2 := ⟨ml_X9_374, im_X6_has, se_X6_has, ini_X6, co_X6_has, by decide +kernel⟩
set_option maxHeartbeats 4000000 in
set_option maxRecDepth 100000 in
theorem t_X9_fork (l : Launch) (D : va_G) (cy : Nat → ClassId) (base : Nat) (τ : Nat → Nat) (G : Gh) (a : Nat) (h_a : τ a = 1) (v0 : Int32) (v1 : Int32) (v2 : Int32) (v3 : Int32) : MM l yX9_fork cX9_fork 5 (some .long) 6 0 0 D cy [.ref a, .int v0, .int v1, .int v2, .int v3] (PT D cy base τ G) (QT D cy base τ G [3, 33, 34, 36, 37] (fun v g => ∃ r : Int64, v = some (.long r) ∧ (True))) (RA base) := by
  refine MM.of (by decide) (Nat.le_of_ble_eq_true rfl) ?_
  intro p e s m below meth c C hPT ls hl
  obtain ⟨hx, hb, hr, hml, hown, hts, hlocks, hK, hnm⟩ := C
  obtain ⟨hZ, hT⟩ := hPT
  have hS : va_S (RA base) s.heap s.heap [] := va_S.rf
  have hF : Fr τ [3, 33, 34, 36, 37] G G := Fr.rf
  have hl : lv_has ls 5 [(0, .ref a), (1, .int v0), (2, .int v1), (3, .int v2), (4, .int v3)] := hl
  refine lv_aload_n hx hb dX9_fork_0 rfl (lv_at hl 0 rfl) ?_
  refine t_getr cf_1 hx hb hts hown hK hT h_a (k := 10) (P := fun q => τ q = 7) rfl (fun _ h9 => h9) fl_X9_67 (fun _ h9 => h9) dX9_fork_1 (fun q_1 eq_1 hq_1 => ?_)
  refine lv_iload_n hx hb dX9_fork_4 rfl (lv_at hl 1 rfl) ?_
  refine lv_iload_n hx hb dX9_fork_5 rfl (lv_at hl 2 rfl) ?_
  refine pu_calli (runV (As := [.int v0, .int v1]) (rest := []) ⟨hx, hb, hml, hown, hts⟩ (t_X2_hasTwo l D cy base τ G q_1 hq_1 v0 v1) sV_X9_125 hK (t_recv cf_7 hK hT hq_1) ⟨Nat.le_trans hZ hS.1, hT⟩ ⟨Nat.le_of_ble_eq_true rfl, Nat.le_of_ble_eq_true rfl⟩ rfl hl.1 rfl (Nat.le_of_ble_eq_true rfl) dX9_fork_6 ⟨Nat.le_of_ble_eq_true rfl, Nat.le_of_ble_eq_true rfl⟩) (fun r_2 hr_2 => ?_)
  have hr_2_c := hr_2
  rcases hr_2_c with hr_2_0 | hr_2_1
  · skip
    obtain ⟨er_2, hr_2_0_f0, hr_2_0_f1, hr_2_0_f2, hr_2_0_f3⟩ := hr_2_0
    have hr_2_0_f0 : 0 ≤ v0.toInt := hr_2_0_f0
    have hr_2_0_f1 : v0.toInt ≤ 5 := hr_2_0_f1
    have hr_2_0_f2 : 0 ≤ v1.toInt := hr_2_0_f2
    have hr_2_0_f3 : v1.toInt ≤ 5 := hr_2_0_f3
    subst er_2
    refine W.eq (g2 := F0 m 9 ls [.int 1]) rfl ?_
    refine lv_if_eq (tgt := 31) hx hb dX9_fork_9 (by decide) (fun c_3 => absurd c_3 (by decide)) (fun _ => ?_)
    refine lv_aload_n hx hb dX9_fork_12 rfl (lv_at hl 0 rfl) ?_
    refine t_getr cf_1 hx hb hts hown hK hT h_a (k := 10) (P := fun q => τ q = 7) rfl (fun _ h9 => h9) fl_X9_67 (fun _ h9 => h9) dX9_fork_13 (fun q_4 eq_4 hq_4 => ?_)
    have w_5 : q_1 = q_4 := Option.some.inj (eq_1.symm.trans eq_4)
    subst w_5
    refine lv_iload_n hx hb dX9_fork_16 rfl (lv_at hl 3 rfl) ?_
    refine pu_calli (runV (As := [.int v2]) (rest := []) ⟨hx, hb, hml, hown, hts⟩ (t_X2_hasThing l D cy base τ G q_1 hq_1 v2) sV_X9_242 hK (t_recv cf_7 hK hT hq_1) ⟨Nat.le_trans hZ hS.1, hT⟩ ⟨Nat.le_of_ble_eq_true rfl, Nat.le_of_ble_eq_true rfl⟩ rfl hl.1 rfl (Nat.le_of_ble_eq_true rfl) dX9_fork_17 ⟨Nat.le_of_ble_eq_true rfl, Nat.le_of_ble_eq_true rfl⟩) (fun r_6 hr_6 => ?_)
    have hr_6_c := hr_6
    rcases hr_6_c with hr_6_0 | hr_6_1
    · skip
      obtain ⟨er_6, hr_6_0_f0, hr_6_0_f1⟩ := hr_6_0
      have hr_6_0_f0 : 0 ≤ v2.toInt := hr_6_0_f0
      have hr_6_0_f1 : v2.toInt ≤ 2 := hr_6_0_f1
      subst er_6
      refine W.eq (g2 := F0 m 20 ls [.int 1]) rfl ?_
      refine lv_if_eq (tgt := 31) hx hb dX9_fork_20 (by decide) (fun c_7 => absurd c_7 (by decide)) (fun _ => ?_)
      refine lv_iload hx hb dX9_fork_23 (lv_at hl 4 rfl) ?_
      refine pu_calli (runS (As := [.int v3]) (rest := []) ⟨hx, hb, hml, hown, hts⟩ (t_X9_isSacks l D cy base τ G v3) sS_X9_167 hK ⟨Nat.le_trans hZ hS.1, hT⟩ ⟨Nat.le_of_ble_eq_true rfl, Nat.le_of_ble_eq_true rfl⟩ rfl hl.1 rfl (Nat.le_of_ble_eq_true rfl) dX9_fork_25 ⟨Nat.le_of_ble_eq_true rfl, Nat.le_of_ble_eq_true rfl⟩) (fun r_8 hr_8 => ?_)
      have hr_8_c := hr_8
      rcases hr_8_c with hr_8_0 | hr_8_1
      · skip
        obtain ⟨er_8, hr_8_0_f0, hr_8_0_f1⟩ := hr_8_0
        have hr_8_0_f0 : 0 ≤ v3.toInt := hr_8_0_f0
        have hr_8_0_f1 : v3.toInt ≤ 999 := hr_8_0_f1
        subst er_8
        refine W.eq (g2 := F0 m 28 ls [.int 1]) rfl ?_
        refine lv_if_ne (tgt := 35) hx hb dX9_fork_28 (by decide) (fun _ => ?_) (fun c_9 => absurd c_9 (by decide))
        refine lv_aload_n hx hb dX9_fork_35 rfl (lv_at hl 0 rfl) ?_
        refine t_getr cf_1 hx hb hts hown hK hT h_a (k := 2) (P := fun q => τ q = 3) rfl (fun _ h9 => h9) fl_X9_23 (fun _ h9 => h9) dX9_fork_36 (fun q_10 eq_10 hq_10 => ?_)
        refine lv_aload_n hx hb dX9_fork_39 rfl (lv_at hl 0 rfl) ?_
        refine t_getr cf_1 hx hb hts hown hK hT h_a (k := 10) (P := fun q => τ q = 7) rfl (fun _ h9 => h9) fl_X9_67 (fun _ h9 => h9) dX9_fork_40 (fun q_11 eq_11 hq_11 => ?_)
        have w_12 : q_1 = q_11 := Option.some.inj (eq_1.symm.trans eq_11)
        subst w_12
        refine lv_iload_n hx hb dX9_fork_43 rfl (lv_at hl 1 rfl) ?_
        refine lv_iload_n hx hb dX9_fork_44 rfl (lv_at hl 2 rfl) ?_
        refine lv_iload_n hx hb dX9_fork_45 rfl (lv_at hl 3 rfl) ?_
        refine t_callv (runV (As := [.ref q_1, .int v0, .int v1, .int v2]) (rest := []) ⟨hx, hb, hml, hown, hts⟩ (t_X8_layFork l D cy base τ G q_10 hq_10 q_1 hq_1 v0 v1 v2) sV_X9_245 hK (t_recv cf_3 hK hT hq_10) ⟨Nat.le_trans hZ hS.1, hT⟩ ⟨Nat.le_of_ble_eq_true rfl, Nat.le_of_ble_eq_true rfl⟩ rfl hl.1 rfl (Nat.le_of_ble_eq_true rfl) dX9_fork_46 ⟨Nat.le_of_ble_eq_true rfl, Nat.le_of_ble_eq_true rfl⟩) hS (fun G_13 H locs hF_13 hr_13 hT hS => ?_)
        have hF := hF.tr hF_13 rfl
        refine lv_aload_n hx hb dX9_fork_49 rfl (lv_at hl 0 rfl) ?_
        refine t_getr cf_1 hx hb hts hown hK hT h_a (k := 2) (P := fun q => τ q = 3) rfl (fun _ h9 => h9) fl_X9_23 (fun _ h9 => h9) dX9_fork_50 (fun q_14 eq_14 hq_14 => ?_)
        have w_15 : q_10 = q_14 := Option.some.inj (eq_10.symm.trans ((hF.r h_a (by decide) rfl _).symm.trans eq_14))
        subst w_15
        refine lv_iload hx hb dX9_fork_53 (lv_at hl 4 rfl) ?_
        refine pu_calll (runV (As := [.int v3]) (rest := []) ⟨hx, hb, hml, hown, hts⟩ (t_X8_thousandths l D cy base τ G_13 q_10 hq_10 v3) sV_X9_173 hK (t_recv cf_3 hK hT hq_10) ⟨Nat.le_trans hZ hS.1, hT⟩ ⟨Nat.le_of_ble_eq_true rfl, Nat.le_of_ble_eq_true rfl⟩ rfl hl.1 rfl (Nat.le_of_ble_eq_true rfl) dX9_fork_55 ⟨Nat.le_of_ble_eq_true rfl, Nat.le_of_ble_eq_true rfl⟩) (fun r_16 hr_16 => ?_)
        exact ret_l hx hb hr hlocks ⟨⟨hS.1, hS.2.1⟩, G_13, hF, ⟨_, rfl, trivial⟩, hT⟩ hS.2.2 (Nat.le_of_ble_eq_true rfl) (Nat.le_of_ble_eq_true rfl) dX9_fork_58
      · skip
        have er_8 := hr_8_1
        subst er_8
        refine W.eq (g2 := F0 m 28 ls [.int 0]) rfl ?_
        refine lv_if_ne (tgt := 35) hx hb dX9_fork_28 (by decide) (fun c_17 => absurd rfl c_17) (fun _ => ?_)
        refine lv_ldc2 (v := (-2)) hx hb hown (hts _ kl_X9_106) dX9_fork_31 ?_
        exact ret_l hx hb hr hlocks ⟨⟨hS.1, hS.2.1⟩, G, hF, ⟨_, rfl, trivial⟩, hT⟩ hS.2.2 (Nat.le_of_ble_eq_true rfl) (Nat.le_of_ble_eq_true rfl) dX9_fork_34
    · skip
      have er_6 := hr_6_1
      subst er_6
      refine W.eq (g2 := F0 m 20 ls [.int 0]) rfl ?_
      refine lv_if_eq (tgt := 31) hx hb dX9_fork_20 (by decide) (fun _ => ?_) (fun c_18 => absurd (by decide) c_18)
      refine lv_ldc2 (v := (-2)) hx hb hown (hts _ kl_X9_106) dX9_fork_31 ?_
      exact ret_l hx hb hr hlocks ⟨⟨hS.1, hS.2.1⟩, G, hF, ⟨_, rfl, trivial⟩, hT⟩ hS.2.2 (Nat.le_of_ble_eq_true rfl) (Nat.le_of_ble_eq_true rfl) dX9_fork_34
  · skip
    have er_2 := hr_2_1
    subst er_2
    refine W.eq (g2 := F0 m 9 ls [.int 0]) rfl ?_
    refine lv_if_eq (tgt := 31) hx hb dX9_fork_9 (by decide) (fun _ => ?_) (fun c_19 => absurd (by decide) c_19)
    refine lv_ldc2 (v := (-2)) hx hb hown (hts _ kl_X9_106) dX9_fork_31 ?_
    exact ret_l hx hb hr hlocks ⟨⟨hS.1, hS.2.1⟩, G, hF, ⟨_, rfl, trivial⟩, hT⟩ hS.2.2 (Nat.le_of_ble_eq_true rfl) (Nat.le_of_ble_eq_true rfl) dX9_fork_34
set_option maxHeartbeats 4000000 in
set_option maxRecDepth 100000 in
theorem t_X9_middle (l : Launch) (D : va_G) (cy : Nat → ClassId) (base : Nat) (τ : Nat → Nat) (G : Gh) (a : Nat) (h_a : τ a = 1) (v0 : Int32) (v1 : Int32) (v2 : Int32) : MM l yX9_middle cX9_middle 4 (some .int) 6 0 0 D cy [.ref a, .int v0, .int v1, .int v2] (PT D cy base τ G) (QT D cy base τ G [3, 33, 34, 36, 37] (fun v g => ∃ r : Int32, v = some (.int r) ∧ (True))) (RA base) := by
  refine MM.of (by decide) (Nat.le_of_ble_eq_true rfl) ?_
  intro p e s m below meth c C hPT ls hl
  obtain ⟨hx, hb, hr, hml, hown, hts, hlocks, hK, hnm⟩ := C
  obtain ⟨hZ, hT⟩ := hPT
  have hS : va_S (RA base) s.heap s.heap [] := va_S.rf
  have hF : Fr τ [3, 33, 34, 36, 37] G G := Fr.rf
  have hl : lv_has ls 4 [(0, .ref a), (1, .int v0), (2, .int v1), (3, .int v2)] := hl
  refine lv_aload_n hx hb dX9_middle_0 rfl (lv_at hl 0 rfl) ?_
  refine t_getr cf_1 hx hb hts hown hK hT h_a (k := 10) (P := fun q => τ q = 7) rfl (fun _ h9 => h9) fl_X9_67 (fun _ h9 => h9) dX9_middle_1 (fun q_1 eq_1 hq_1 => ?_)
  refine lv_iload_n hx hb dX9_middle_4 rfl (lv_at hl 1 rfl) ?_
  refine lv_iload_n hx hb dX9_middle_5 rfl (lv_at hl 2 rfl) ?_
  refine pu_calli (runV (As := [.int v0, .int v1]) (rest := []) ⟨hx, hb, hml, hown, hts⟩ (t_X2_hasTwo l D cy base τ G q_1 hq_1 v0 v1) sV_X9_125 hK (t_recv cf_7 hK hT hq_1) ⟨Nat.le_trans hZ hS.1, hT⟩ ⟨Nat.le_of_ble_eq_true rfl, Nat.le_of_ble_eq_true rfl⟩ rfl hl.1 rfl (Nat.le_of_ble_eq_true rfl) dX9_middle_6 ⟨Nat.le_of_ble_eq_true rfl, Nat.le_of_ble_eq_true rfl⟩) (fun r_2 hr_2 => ?_)
  have hr_2_c := hr_2
  rcases hr_2_c with hr_2_0 | hr_2_1
  · skip
    obtain ⟨er_2, hr_2_0_f0, hr_2_0_f1, hr_2_0_f2, hr_2_0_f3⟩ := hr_2_0
    have hr_2_0_f0 : 0 ≤ v0.toInt := hr_2_0_f0
    have hr_2_0_f1 : v0.toInt ≤ 5 := hr_2_0_f1
    have hr_2_0_f2 : 0 ≤ v1.toInt := hr_2_0_f2
    have hr_2_0_f3 : v1.toInt ≤ 5 := hr_2_0_f3
    subst er_2
    refine W.eq (g2 := F0 m 9 ls [.int 1]) rfl ?_
    refine lv_if_eq (tgt := 23) hx hb dX9_middle_9 (by decide) (fun c_3 => absurd c_3 (by decide)) (fun _ => ?_)
    refine lv_aload_n hx hb dX9_middle_12 rfl (lv_at hl 0 rfl) ?_
    refine t_getr cf_1 hx hb hts hown hK hT h_a (k := 10) (P := fun q => τ q = 7) rfl (fun _ h9 => h9) fl_X9_67 (fun _ h9 => h9) dX9_middle_13 (fun q_4 eq_4 hq_4 => ?_)
    have w_5 : q_1 = q_4 := Option.some.inj (eq_1.symm.trans eq_4)
    subst w_5
    refine lv_iload_n hx hb dX9_middle_16 rfl (lv_at hl 3 rfl) ?_
    refine pu_calli (runV (As := [.int v2]) (rest := []) ⟨hx, hb, hml, hown, hts⟩ (t_X2_hasThing l D cy base τ G q_1 hq_1 v2) sV_X9_242 hK (t_recv cf_7 hK hT hq_1) ⟨Nat.le_trans hZ hS.1, hT⟩ ⟨Nat.le_of_ble_eq_true rfl, Nat.le_of_ble_eq_true rfl⟩ rfl hl.1 rfl (Nat.le_of_ble_eq_true rfl) dX9_middle_17 ⟨Nat.le_of_ble_eq_true rfl, Nat.le_of_ble_eq_true rfl⟩) (fun r_6 hr_6 => ?_)
    have hr_6_c := hr_6
    rcases hr_6_c with hr_6_0 | hr_6_1
    · skip
      obtain ⟨er_6, hr_6_0_f0, hr_6_0_f1⟩ := hr_6_0
      have hr_6_0_f0 : 0 ≤ v2.toInt := hr_6_0_f0
      have hr_6_0_f1 : v2.toInt ≤ 2 := hr_6_0_f1
      subst er_6
      refine W.eq (g2 := F0 m 20 ls [.int 1]) rfl ?_
      refine lv_if_ne (tgt := 26) hx hb dX9_middle_20 (by decide) (fun _ => ?_) (fun c_7 => absurd c_7 (by decide))
      refine lv_aload_n hx hb dX9_middle_26 rfl (lv_at hl 0 rfl) ?_
      refine t_getr cf_1 hx hb hts hown hK hT h_a (k := 2) (P := fun q => τ q = 3) rfl (fun _ h9 => h9) fl_X9_23 (fun _ h9 => h9) dX9_middle_27 (fun q_8 eq_8 hq_8 => ?_)
      refine lv_aload_n hx hb dX9_middle_30 rfl (lv_at hl 0 rfl) ?_
      refine t_getr cf_1 hx hb hts hown hK hT h_a (k := 10) (P := fun q => τ q = 7) rfl (fun _ h9 => h9) fl_X9_67 (fun _ h9 => h9) dX9_middle_31 (fun q_9 eq_9 hq_9 => ?_)
      have w_10 : q_1 = q_9 := Option.some.inj (eq_1.symm.trans eq_9)
      subst w_10
      refine lv_iload_n hx hb dX9_middle_34 rfl (lv_at hl 1 rfl) ?_
      refine lv_iload_n hx hb dX9_middle_35 rfl (lv_at hl 2 rfl) ?_
      refine lv_iload_n hx hb dX9_middle_36 rfl (lv_at hl 3 rfl) ?_
      refine t_callv (runV (As := [.ref q_1, .int v0, .int v1, .int v2]) (rest := []) ⟨hx, hb, hml, hown, hts⟩ (t_X8_layFork l D cy base τ G q_8 hq_8 q_1 hq_1 v0 v1 v2) sV_X9_245 hK (t_recv cf_3 hK hT hq_8) ⟨Nat.le_trans hZ hS.1, hT⟩ ⟨Nat.le_of_ble_eq_true rfl, Nat.le_of_ble_eq_true rfl⟩ rfl hl.1 rfl (Nat.le_of_ble_eq_true rfl) dX9_middle_37 ⟨Nat.le_of_ble_eq_true rfl, Nat.le_of_ble_eq_true rfl⟩) hS (fun G_11 H locs hF_11 hr_11 hT hS => ?_)
      have hF := hF.tr hF_11 rfl
      refine lv_aload_n hx hb dX9_middle_40 rfl (lv_at hl 0 rfl) ?_
      refine t_getr cf_1 hx hb hts hown hK hT h_a (k := 2) (P := fun q => τ q = 3) rfl (fun _ h9 => h9) fl_X9_23 (fun _ h9 => h9) dX9_middle_41 (fun q_12 eq_12 hq_12 => ?_)
      have w_13 : q_8 = q_12 := Option.some.inj (eq_8.symm.trans ((hF.r h_a (by decide) rfl _).symm.trans eq_12))
      subst w_13
      refine lv_iconst (v := 0) hx hb dX9_middle_44 (by decide) ?_
      refine pu_calli (runV (As := [.int 0]) (rest := []) ⟨hx, hb, hml, hown, hts⟩ (t_X8_leastSacks l D cy base τ G_11 q_8 hq_8 0) sV_X9_181 hK (t_recv cf_3 hK hT hq_8) ⟨Nat.le_trans hZ hS.1, hT⟩ ⟨Nat.le_of_ble_eq_true rfl, Nat.le_of_ble_eq_true rfl⟩ rfl hl.1 rfl (Nat.le_of_ble_eq_true rfl) dX9_middle_45 ⟨Nat.le_of_ble_eq_true rfl, Nat.le_of_ble_eq_true rfl⟩) (fun r_14 hr_14 => ?_)
      obtain ⟨hr_14_lo, hr_14_hi⟩ := hr_14
      have hr_14_lo : 0 ≤ r_14.toInt := hr_14_lo
      have hr_14_hi : r_14.toInt ≤ 999 := hr_14_hi
      exact ret_i hx hb hr hlocks ⟨⟨hS.1, hS.2.1⟩, G_11, hF, ⟨_, rfl, trivial⟩, hT⟩ hS.2.2 (Nat.le_of_ble_eq_true rfl) (Nat.le_of_ble_eq_true rfl) dX9_middle_48
    · skip
      have er_6 := hr_6_1
      subst er_6
      refine W.eq (g2 := F0 m 20 ls [.int 0]) rfl ?_
      refine lv_if_ne (tgt := 26) hx hb dX9_middle_20 (by decide) (fun c_15 => absurd rfl c_15) (fun _ => ?_)
      refine lv_bipush (v := (-2)) hx hb dX9_middle_23 (by decide) ?_
      exact ret_i hx hb hr hlocks ⟨⟨hS.1, hS.2.1⟩, G, hF, ⟨_, rfl, trivial⟩, hT⟩ hS.2.2 (Nat.le_of_ble_eq_true rfl) (Nat.le_of_ble_eq_true rfl) dX9_middle_25
  · skip
    have er_2 := hr_2_1
    subst er_2
    refine W.eq (g2 := F0 m 9 ls [.int 0]) rfl ?_
    refine lv_if_eq (tgt := 23) hx hb dX9_middle_9 (by decide) (fun _ => ?_) (fun c_16 => absurd (by decide) c_16)
    refine lv_bipush (v := (-2)) hx hb dX9_middle_23 (by decide) ?_
    exact ret_i hx hb hr hlocks ⟨⟨hS.1, hS.2.1⟩, G, hF, ⟨_, rfl, trivial⟩, hT⟩ hS.2.2 (Nat.le_of_ble_eq_true rfl) (Nat.le_of_ble_eq_true rfl) dX9_middle_25
set_option maxHeartbeats 4000000 in
set_option maxRecDepth 100000 in
theorem t_X9_shares (l : Launch) (D : va_G) (cy : Nat → ClassId) (base : Nat) (τ : Nat → Nat) (G : Gh) (a : Nat) (h_a : τ a = 1) (v0 : Int32) (v1 : Int32) (v2 : Int32) : MM l yX9_shares cX9_shares 6 (some .long) 6 0 0 D cy [.ref a, .int v0, .int v1, .int v2] (PT D cy base τ G) (QT D cy base τ G [3, 32, 33, 34, 36, 37] (fun v g => ∃ r : Int64, v = some (.long r) ∧ (True))) (RA base) := by
  refine MM.of (by decide) (Nat.le_of_ble_eq_true rfl) ?_
  intro p e s m below meth c C hPT ls hl
  obtain ⟨hx, hb, hr, hml, hown, hts, hlocks, hK, hnm⟩ := C
  obtain ⟨hZ, hT⟩ := hPT
  have hS : va_S (RA base) s.heap s.heap [] := va_S.rf
  have hF : Fr τ [3, 32, 33, 34, 36, 37] G G := Fr.rf
  have hl : lv_has ls 6 [(0, .ref a), (1, .int v0), (2, .int v1), (3, .int v2)] := hl
  refine lv_aload_n hx hb dX9_shares_0 rfl (lv_at hl 0 rfl) ?_
  refine t_getr cf_1 hx hb hts hown hK hT h_a (k := 10) (P := fun q => τ q = 7) rfl (fun _ h9 => h9) fl_X9_67 (fun _ h9 => h9) dX9_shares_1 (fun q_1 eq_1 hq_1 => ?_)
  refine lv_iload_n hx hb dX9_shares_4 rfl (lv_at hl 1 rfl) ?_
  refine lv_iload_n hx hb dX9_shares_5 rfl (lv_at hl 2 rfl) ?_
  refine pu_calli (runV (As := [.int v0, .int v1]) (rest := []) ⟨hx, hb, hml, hown, hts⟩ (t_X2_hasTwo l D cy base τ G q_1 hq_1 v0 v1) sV_X9_125 hK (t_recv cf_7 hK hT hq_1) ⟨Nat.le_trans hZ hS.1, hT⟩ ⟨Nat.le_of_ble_eq_true rfl, Nat.le_of_ble_eq_true rfl⟩ rfl hl.1 rfl (Nat.le_of_ble_eq_true rfl) dX9_shares_6 ⟨Nat.le_of_ble_eq_true rfl, Nat.le_of_ble_eq_true rfl⟩) (fun r_2 hr_2 => ?_)
  have hr_2_c := hr_2
  rcases hr_2_c with hr_2_0 | hr_2_1
  · skip
    obtain ⟨er_2, hr_2_0_f0, hr_2_0_f1, hr_2_0_f2, hr_2_0_f3⟩ := hr_2_0
    have hr_2_0_f0 : 0 ≤ v0.toInt := hr_2_0_f0
    have hr_2_0_f1 : v0.toInt ≤ 5 := hr_2_0_f1
    have hr_2_0_f2 : 0 ≤ v1.toInt := hr_2_0_f2
    have hr_2_0_f3 : v1.toInt ≤ 5 := hr_2_0_f3
    subst er_2
    refine W.eq (g2 := F0 m 9 ls [.int 1]) rfl ?_
    refine lv_if_eq (tgt := 23) hx hb dX9_shares_9 (by decide) (fun c_3 => absurd c_3 (by decide)) (fun _ => ?_)
    refine lv_aload_n hx hb dX9_shares_12 rfl (lv_at hl 0 rfl) ?_
    refine t_getr cf_1 hx hb hts hown hK hT h_a (k := 10) (P := fun q => τ q = 7) rfl (fun _ h9 => h9) fl_X9_67 (fun _ h9 => h9) dX9_shares_13 (fun q_4 eq_4 hq_4 => ?_)
    have w_5 : q_1 = q_4 := Option.some.inj (eq_1.symm.trans eq_4)
    subst w_5
    refine lv_iload_n hx hb dX9_shares_16 rfl (lv_at hl 3 rfl) ?_
    refine pu_calli (runV (As := [.int v2]) (rest := []) ⟨hx, hb, hml, hown, hts⟩ (t_X2_hasThing l D cy base τ G q_1 hq_1 v2) sV_X9_242 hK (t_recv cf_7 hK hT hq_1) ⟨Nat.le_trans hZ hS.1, hT⟩ ⟨Nat.le_of_ble_eq_true rfl, Nat.le_of_ble_eq_true rfl⟩ rfl hl.1 rfl (Nat.le_of_ble_eq_true rfl) dX9_shares_17 ⟨Nat.le_of_ble_eq_true rfl, Nat.le_of_ble_eq_true rfl⟩) (fun r_6 hr_6 => ?_)
    have hr_6_c := hr_6
    rcases hr_6_c with hr_6_0 | hr_6_1
    · skip
      obtain ⟨er_6, hr_6_0_f0, hr_6_0_f1⟩ := hr_6_0
      have hr_6_0_f0 : 0 ≤ v2.toInt := hr_6_0_f0
      have hr_6_0_f1 : v2.toInt ≤ 2 := hr_6_0_f1
      subst er_6
      refine W.eq (g2 := F0 m 20 ls [.int 1]) rfl ?_
      refine lv_if_ne (tgt := 27) hx hb dX9_shares_20 (by decide) (fun _ => ?_) (fun c_7 => absurd c_7 (by decide))
      refine lv_aload_n hx hb dX9_shares_27 rfl (lv_at hl 0 rfl) ?_
      refine t_getr cf_1 hx hb hts hown hK hT h_a (k := 2) (P := fun q => τ q = 3) rfl (fun _ h9 => h9) fl_X9_23 (fun _ h9 => h9) dX9_shares_28 (fun q_8 eq_8 hq_8 => ?_)
      refine lv_aload_n hx hb dX9_shares_31 rfl (lv_at hl 0 rfl) ?_
      refine t_getr cf_1 hx hb hts hown hK hT h_a (k := 10) (P := fun q => τ q = 7) rfl (fun _ h9 => h9) fl_X9_67 (fun _ h9 => h9) dX9_shares_32 (fun q_9 eq_9 hq_9 => ?_)
      have w_10 : q_1 = q_9 := Option.some.inj (eq_1.symm.trans eq_9)
      subst w_10
      refine lv_iload_n hx hb dX9_shares_35 rfl (lv_at hl 1 rfl) ?_
      refine lv_iload_n hx hb dX9_shares_36 rfl (lv_at hl 3 rfl) ?_
      refine t_callv (runV (As := [.ref q_1, .int v0, .int v2]) (rest := []) ⟨hx, hb, hml, hown, hts⟩ (t_X8_layAlone l D cy base τ G q_8 hq_8 q_1 hq_1 v0 v2) sV_X9_170 hK (t_recv cf_3 hK hT hq_8) ⟨Nat.le_trans hZ hS.1, hT⟩ ⟨Nat.le_of_ble_eq_true rfl, Nat.le_of_ble_eq_true rfl⟩ rfl hl.1 rfl (Nat.le_of_ble_eq_true rfl) dX9_shares_37 ⟨Nat.le_of_ble_eq_true rfl, Nat.le_of_ble_eq_true rfl⟩) hS (fun G_11 H locs hF_11 hr_11 hT hS => ?_)
      have hF := hF.tr hF_11 rfl
      refine lv_aload_n hx hb dX9_shares_40 rfl (lv_at hl 0 rfl) ?_
      refine t_getr cf_1 hx hb hts hown hK hT h_a (k := 2) (P := fun q => τ q = 3) rfl (fun _ h9 => h9) fl_X9_23 (fun _ h9 => h9) dX9_shares_41 (fun q_12 eq_12 hq_12 => ?_)
      have w_13 : q_8 = q_12 := Option.some.inj (eq_8.symm.trans ((hF.r h_a (by decide) rfl _).symm.trans eq_12))
      subst w_13
      refine lv_iconst (v := 0) hx hb dX9_shares_44 (by decide) ?_
      refine pu_calll (runV (As := [.int 0]) (rest := []) ⟨hx, hb, hml, hown, hts⟩ (t_X8_leastWhole l D cy base τ G_11 q_8 hq_8 0) sV_X9_205 hK (t_recv cf_3 hK hT hq_8) ⟨Nat.le_trans hZ hS.1, hT⟩ ⟨Nat.le_of_ble_eq_true rfl, Nat.le_of_ble_eq_true rfl⟩ rfl hl.1 rfl (Nat.le_of_ble_eq_true rfl) dX9_shares_45 ⟨Nat.le_of_ble_eq_true rfl, Nat.le_of_ble_eq_true rfl⟩) (fun r_14 hr_14 => ?_)
      refine lv_lstore (lv' := [(4, .long r_14), (0, .ref a), (1, .int v0), (2, .int v1), (3, .int v2)]) hx hb dX9_shares_48 hl (by decide) rfl (fun ls hl => ?_)
      refine lv_aload_n hx hb dX9_shares_50 rfl (lv_at hl 1 rfl) ?_
      refine t_getr cf_1 hx hb hts hown hK hT h_a (k := 2) (P := fun q => τ q = 3) rfl (fun _ h9 => h9) fl_X9_23 (fun _ h9 => h9) dX9_shares_51 (fun q_15 eq_15 hq_15 => ?_)
      have w_16 : q_8 = q_15 := Option.some.inj (eq_8.symm.trans ((hF.r h_a (by decide) rfl _).symm.trans eq_15))
      subst w_16
      refine lv_aload_n hx hb dX9_shares_54 rfl (lv_at hl 1 rfl) ?_
      refine t_getr cf_1 hx hb hts hown hK hT h_a (k := 10) (P := fun q => τ q = 7) rfl (fun _ h9 => h9) fl_X9_67 (fun _ h9 => h9) dX9_shares_55 (fun q_17 eq_17 hq_17 => ?_)
      have w_18 : q_1 = q_17 := Option.some.inj (eq_1.symm.trans ((hF.r h_a (by decide) rfl _).symm.trans eq_17))
      subst w_18
      refine lv_iload_n hx hb dX9_shares_58 rfl (lv_at hl 3 rfl) ?_
      refine lv_iload_n hx hb dX9_shares_59 rfl (lv_at hl 4 rfl) ?_
      refine t_callv (runV (As := [.ref q_1, .int v1, .int v2]) (rest := []) ⟨hx, hb, hml, hown, hts⟩ (t_X8_layAlone l D cy base τ G_11 q_8 hq_8 q_1 hq_1 v1 v2) sV_X9_170 hK (t_recv cf_3 hK hT hq_8) ⟨Nat.le_trans hZ hS.1, hT⟩ ⟨Nat.le_of_ble_eq_true rfl, Nat.le_of_ble_eq_true rfl⟩ rfl hl.1 rfl (Nat.le_of_ble_eq_true rfl) dX9_shares_60 ⟨Nat.le_of_ble_eq_true rfl, Nat.le_of_ble_eq_true rfl⟩) hS (fun G_19 H locs hF_19 hr_19 hT hS => ?_)
      have hF := hF.tr hF_19 rfl
      refine lv_lload hx hb dX9_shares_63 (lv_at hl 0 rfl) ?_
      refine lv_aload_n hx hb dX9_shares_65 rfl (lv_at hl 1 rfl) ?_
      refine t_getr cf_1 hx hb hts hown hK hT h_a (k := 2) (P := fun q => τ q = 3) rfl (fun _ h9 => h9) fl_X9_23 (fun _ h9 => h9) dX9_shares_66 (fun q_20 eq_20 hq_20 => ?_)
      have w_21 : q_8 = q_20 := Option.some.inj (eq_8.symm.trans ((hF.r h_a (by decide) rfl _).symm.trans eq_20))
      subst w_21
      refine lv_iconst (v := 0) hx hb dX9_shares_69 (by decide) ?_
      refine pu_calll (runV (As := [.int 0]) (rest := [.long r_14]) ⟨hx, hb, hml, hown, hts⟩ (t_X8_leastWhole l D cy base τ G_19 q_8 hq_8 0) sV_X9_205 hK (t_recv cf_3 hK hT hq_8) ⟨Nat.le_trans hZ hS.1, hT⟩ ⟨Nat.le_of_ble_eq_true rfl, Nat.le_of_ble_eq_true rfl⟩ rfl hl.1 rfl (Nat.le_of_ble_eq_true rfl) dX9_shares_70 ⟨Nat.le_of_ble_eq_true rfl, Nat.le_of_ble_eq_true rfl⟩) (fun r_22 hr_22 => ?_)
      refine lv_ladd hx hb dX9_shares_73 ?_
      refine lv_topl (fun z_23 ez_23 => ?_)
      refine lv_lstore (lv' := [(4, .long z_23), (0, .ref a), (1, .int v0), (2, .int v1), (3, .int v2)]) hx hb dX9_shares_74 hl (by decide) rfl (fun ls hl => ?_)
      refine lv_aload_n hx hb dX9_shares_76 rfl (lv_at hl 1 rfl) ?_
      refine t_getr cf_1 hx hb hts hown hK hT h_a (k := 2) (P := fun q => τ q = 3) rfl (fun _ h9 => h9) fl_X9_23 (fun _ h9 => h9) dX9_shares_77 (fun q_24 eq_24 hq_24 => ?_)
      have w_25 : q_8 = q_24 := Option.some.inj (eq_8.symm.trans ((hF.r h_a (by decide) rfl _).symm.trans eq_24))
      subst w_25
      refine lv_aload_n hx hb dX9_shares_80 rfl (lv_at hl 1 rfl) ?_
      refine t_getr cf_1 hx hb hts hown hK hT h_a (k := 10) (P := fun q => τ q = 7) rfl (fun _ h9 => h9) fl_X9_67 (fun _ h9 => h9) dX9_shares_81 (fun q_26 eq_26 hq_26 => ?_)
      have w_27 : q_1 = q_26 := Option.some.inj (eq_1.symm.trans ((hF.r h_a (by decide) rfl _).symm.trans eq_26))
      subst w_27
      refine lv_iload_n hx hb dX9_shares_84 rfl (lv_at hl 2 rfl) ?_
      refine lv_iload_n hx hb dX9_shares_85 rfl (lv_at hl 3 rfl) ?_
      refine lv_iload_n hx hb dX9_shares_86 rfl (lv_at hl 4 rfl) ?_
      refine t_callv (runV (As := [.ref q_1, .int v0, .int v1, .int v2]) (rest := []) ⟨hx, hb, hml, hown, hts⟩ (t_X8_layFork l D cy base τ G_19 q_8 hq_8 q_1 hq_1 v0 v1 v2) sV_X9_245 hK (t_recv cf_3 hK hT hq_8) ⟨Nat.le_trans hZ hS.1, hT⟩ ⟨Nat.le_of_ble_eq_true rfl, Nat.le_of_ble_eq_true rfl⟩ rfl hl.1 rfl (Nat.le_of_ble_eq_true rfl) dX9_shares_87 ⟨Nat.le_of_ble_eq_true rfl, Nat.le_of_ble_eq_true rfl⟩) hS (fun G_28 H locs hF_28 hr_28 hT hS => ?_)
      have hF := hF.tr hF_28 rfl
      refine lv_lload hx hb dX9_shares_90 (lv_at hl 0 rfl) ?_
      refine lv_aload_n hx hb dX9_shares_92 rfl (lv_at hl 1 rfl) ?_
      refine t_getr cf_1 hx hb hts hown hK hT h_a (k := 2) (P := fun q => τ q = 3) rfl (fun _ h9 => h9) fl_X9_23 (fun _ h9 => h9) dX9_shares_93 (fun q_29 eq_29 hq_29 => ?_)
      have w_30 : q_8 = q_29 := Option.some.inj (eq_8.symm.trans ((hF.r h_a (by decide) rfl _).symm.trans eq_29))
      subst w_30
      refine lv_iconst (v := 0) hx hb dX9_shares_96 (by decide) ?_
      refine pu_calll (runV (As := [.int 0]) (rest := [.long z_23]) ⟨hx, hb, hml, hown, hts⟩ (t_X8_leastWhole l D cy base τ G_28 q_8 hq_8 0) sV_X9_205 hK (t_recv cf_3 hK hT hq_8) ⟨Nat.le_trans hZ hS.1, hT⟩ ⟨Nat.le_of_ble_eq_true rfl, Nat.le_of_ble_eq_true rfl⟩ rfl hl.1 rfl (Nat.le_of_ble_eq_true rfl) dX9_shares_97 ⟨Nat.le_of_ble_eq_true rfl, Nat.le_of_ble_eq_true rfl⟩) (fun r_31 hr_31 => ?_)
      refine lv_lsub hx hb dX9_shares_100 ?_
      refine lv_topl (fun z_32 ez_32 => ?_)
      refine lv_ldc2 (v := 1000000000) hx hb hown (hts _ kl_X9_158) dX9_shares_101 ?_
      refine lv_ldiv hx hb dX9_shares_104 (by decide) ?_
      refine lv_topl (fun z_33 ez_33 => ?_)
      exact ret_l hx hb hr hlocks ⟨⟨hS.1, hS.2.1⟩, G_28, hF, ⟨_, rfl, trivial⟩, hT⟩ hS.2.2 (Nat.le_of_ble_eq_true rfl) (Nat.le_of_ble_eq_true rfl) dX9_shares_105
    · skip
      have er_6 := hr_6_1
      subst er_6
      refine W.eq (g2 := F0 m 20 ls [.int 0]) rfl ?_
      refine lv_if_ne (tgt := 27) hx hb dX9_shares_20 (by decide) (fun c_34 => absurd rfl c_34) (fun _ => ?_)
      refine lv_ldc2 (v := (-1000000000000)) hx hb hown (hts _ kl_X9_176) dX9_shares_23 ?_
      exact ret_l hx hb hr hlocks ⟨⟨hS.1, hS.2.1⟩, G, hF, ⟨_, rfl, trivial⟩, hT⟩ hS.2.2 (Nat.le_of_ble_eq_true rfl) (Nat.le_of_ble_eq_true rfl) dX9_shares_26
  · skip
    have er_2 := hr_2_1
    subst er_2
    refine W.eq (g2 := F0 m 9 ls [.int 0]) rfl ?_
    refine lv_if_eq (tgt := 23) hx hb dX9_shares_9 (by decide) (fun _ => ?_) (fun c_35 => absurd (by decide) c_35)
    refine lv_ldc2 (v := (-1000000000000)) hx hb hown (hts _ kl_X9_176) dX9_shares_23 ?_
    exact ret_l hx hb hr hlocks ⟨⟨hS.1, hS.2.1⟩, G, hF, ⟨_, rfl, trivial⟩, hT⟩ hS.2.2 (Nat.le_of_ble_eq_true rfl) (Nat.le_of_ble_eq_true rfl) dX9_shares_26
set_option maxHeartbeats 4000000 in
set_option maxRecDepth 100000 in
theorem t_X9_flown (l : Launch) (D : va_G) (cy : Nat → ClassId) (base : Nat) (τ : Nat → Nat) (G : Gh) (a : Nat) (h_a : τ a = 1) (v0 : Int32) (v1 : Int32) (v2 : Int32) : MM l yX9_flown cX9_flown 4 (some .long) 4 0 0 D cy [.ref a, .int v0, .int v1, .int v2] (PT D cy base τ G) (QT D cy base τ G [3, 32, 36] (fun v g => ∃ r : Int64, v = some (.long r) ∧ (True))) (RA base) := by
  refine MM.of (by decide) (Nat.le_of_ble_eq_true rfl) ?_
  intro p e s m below meth c C hPT ls hl
  obtain ⟨hx, hb, hr, hml, hown, hts, hlocks, hK, hnm⟩ := C
  obtain ⟨hZ, hT⟩ := hPT
  have hS : va_S (RA base) s.heap s.heap [] := va_S.rf
  have hF : Fr τ [3, 32, 36] G G := Fr.rf
  have hl : lv_has ls 4 [(0, .ref a), (1, .int v0), (2, .int v1), (3, .int v2)] := hl
  refine lv_aload_n hx hb dX9_flown_0 rfl (lv_at hl 0 rfl) ?_
  refine t_getr cf_1 hx hb hts hown hK hT h_a (k := 10) (P := fun q => τ q = 7) rfl (fun _ h9 => h9) fl_X9_67 (fun _ h9 => h9) dX9_flown_1 (fun q_1 eq_1 hq_1 => ?_)
  refine lv_iload_n hx hb dX9_flown_4 rfl (lv_at hl 1 rfl) ?_
  refine lv_iload_n hx hb dX9_flown_5 rfl (lv_at hl 2 rfl) ?_
  refine pu_calli (runV (As := [.int v0, .int v1]) (rest := []) ⟨hx, hb, hml, hown, hts⟩ (t_X2_hasStore l D cy base τ G q_1 hq_1 v0 v1) sV_X9_160 hK (t_recv cf_7 hK hT hq_1) ⟨Nat.le_trans hZ hS.1, hT⟩ ⟨Nat.le_of_ble_eq_true rfl, Nat.le_of_ble_eq_true rfl⟩ rfl hl.1 rfl (Nat.le_of_ble_eq_true rfl) dX9_flown_6 ⟨Nat.le_of_ble_eq_true rfl, Nat.le_of_ble_eq_true rfl⟩) (fun r_2 hr_2 => ?_)
  have hr_2_c := hr_2
  rcases hr_2_c with hr_2_0 | hr_2_1
  · skip
    obtain ⟨er_2, hr_2_0_f0, hr_2_0_f1, hr_2_0_f2, hr_2_0_f3⟩ := hr_2_0
    have hr_2_0_f0 : 0 ≤ v0.toInt := hr_2_0_f0
    have hr_2_0_f1 : v0.toInt ≤ 5 := hr_2_0_f1
    have hr_2_0_f2 : 0 ≤ v1.toInt := hr_2_0_f2
    have hr_2_0_f3 : v1.toInt ≤ 2 := hr_2_0_f3
    subst er_2
    refine W.eq (g2 := F0 m 9 ls [.int 1]) rfl ?_
    refine lv_if_eq (tgt := 19) hx hb dX9_flown_9 (by decide) (fun c_3 => absurd c_3 (by decide)) (fun _ => ?_)
    refine lv_iload_n hx hb dX9_flown_12 rfl (lv_at hl 3 rfl) ?_
    refine pu_calli (runS (As := [.int v2]) (rest := []) ⟨hx, hb, hml, hown, hts⟩ (t_X9_isSacks l D cy base τ G v2) sS_X9_167 hK ⟨Nat.le_trans hZ hS.1, hT⟩ ⟨Nat.le_of_ble_eq_true rfl, Nat.le_of_ble_eq_true rfl⟩ rfl hl.1 rfl (Nat.le_of_ble_eq_true rfl) dX9_flown_13 ⟨Nat.le_of_ble_eq_true rfl, Nat.le_of_ble_eq_true rfl⟩) (fun r_4 hr_4 => ?_)
    have hr_4_c := hr_4
    rcases hr_4_c with hr_4_0 | hr_4_1
    · skip
      obtain ⟨er_4, hr_4_0_f0, hr_4_0_f1⟩ := hr_4_0
      have hr_4_0_f0 : 0 ≤ v2.toInt := hr_4_0_f0
      have hr_4_0_f1 : v2.toInt ≤ 999 := hr_4_0_f1
      subst er_4
      refine W.eq (g2 := F0 m 16 ls [.int 1]) rfl ?_
      refine lv_if_ne (tgt := 23) hx hb dX9_flown_16 (by decide) (fun _ => ?_) (fun c_5 => absurd c_5 (by decide))
      refine lv_aload_n hx hb dX9_flown_23 rfl (lv_at hl 0 rfl) ?_
      refine t_getr cf_1 hx hb hts hown hK hT h_a (k := 2) (P := fun q => τ q = 3) rfl (fun _ h9 => h9) fl_X9_23 (fun _ h9 => h9) dX9_flown_24 (fun q_6 eq_6 hq_6 => ?_)
      refine lv_aload_n hx hb dX9_flown_27 rfl (lv_at hl 0 rfl) ?_
      refine t_getr cf_1 hx hb hts hown hK hT h_a (k := 10) (P := fun q => τ q = 7) rfl (fun _ h9 => h9) fl_X9_67 (fun _ h9 => h9) dX9_flown_28 (fun q_7 eq_7 hq_7 => ?_)
      have w_8 : q_1 = q_7 := Option.some.inj (eq_1.symm.trans eq_7)
      subst w_8
      refine lv_iload_n hx hb dX9_flown_31 rfl (lv_at hl 1 rfl) ?_
      refine lv_iload_n hx hb dX9_flown_32 rfl (lv_at hl 2 rfl) ?_
      refine t_callv (runV (As := [.ref q_1, .int v0, .int v1]) (rest := []) ⟨hx, hb, hml, hown, hts⟩ (t_X8_gatherAlone l D cy base τ G q_6 hq_6 q_1 hq_1 v0 v1) sV_X9_184 hK (t_recv cf_3 hK hT hq_6) ⟨Nat.le_trans hZ hS.1, hT⟩ ⟨Nat.le_of_ble_eq_true rfl, Nat.le_of_ble_eq_true rfl⟩ rfl hl.1 rfl (Nat.le_of_ble_eq_true rfl) dX9_flown_33 ⟨Nat.le_of_ble_eq_true rfl, Nat.le_of_ble_eq_true rfl⟩) hS (fun G_9 H locs hF_9 hr_9 hT hS => ?_)
      have hF := hF.tr hF_9 rfl
      refine lv_aload_n hx hb dX9_flown_36 rfl (lv_at hl 0 rfl) ?_
      refine t_getr cf_1 hx hb hts hown hK hT h_a (k := 2) (P := fun q => τ q = 3) rfl (fun _ h9 => h9) fl_X9_23 (fun _ h9 => h9) dX9_flown_37 (fun q_10 eq_10 hq_10 => ?_)
      have w_11 : q_6 = q_10 := Option.some.inj (eq_6.symm.trans ((hF.r h_a (by decide) rfl _).symm.trans eq_10))
      subst w_11
      refine lv_aload_n hx hb dX9_flown_40 rfl (lv_at hl 0 rfl) ?_
      refine t_getr cf_1 hx hb hts hown hK hT h_a (k := 10) (P := fun q => τ q = 7) rfl (fun _ h9 => h9) fl_X9_67 (fun _ h9 => h9) dX9_flown_41 (fun q_12 eq_12 hq_12 => ?_)
      have w_13 : q_1 = q_12 := Option.some.inj (eq_1.symm.trans ((hF.r h_a (by decide) rfl _).symm.trans eq_12))
      subst w_13
      refine lv_iload_n hx hb dX9_flown_44 rfl (lv_at hl 2 rfl) ?_
      refine lv_iload_n hx hb dX9_flown_45 rfl (lv_at hl 3 rfl) ?_
      refine pu_calll (runV (As := [.ref q_1, .int v1, .int v2]) (rest := []) ⟨hx, hb, hml, hown, hts⟩ (t_X8_flownWhole l D cy base τ G_9 q_6 hq_6 q_1 hq_1 v1 v2) sV_X9_248 hK (t_recv cf_3 hK hT hq_6) ⟨Nat.le_trans hZ hS.1, hT⟩ ⟨Nat.le_of_ble_eq_true rfl, Nat.le_of_ble_eq_true rfl⟩ rfl hl.1 rfl (Nat.le_of_ble_eq_true rfl) dX9_flown_46 ⟨Nat.le_of_ble_eq_true rfl, Nat.le_of_ble_eq_true rfl⟩) (fun r_14 hr_14 => ?_)
      refine lv_ldc2 (v := 1000000000) hx hb hown (hts _ kl_X9_158) dX9_flown_49 ?_
      refine lv_ldiv hx hb dX9_flown_52 (by decide) ?_
      refine lv_topl (fun z_15 ez_15 => ?_)
      exact ret_l hx hb hr hlocks ⟨⟨hS.1, hS.2.1⟩, G_9, hF, ⟨_, rfl, trivial⟩, hT⟩ hS.2.2 (Nat.le_of_ble_eq_true rfl) (Nat.le_of_ble_eq_true rfl) dX9_flown_53
    · skip
      have er_4 := hr_4_1
      subst er_4
      refine W.eq (g2 := F0 m 16 ls [.int 0]) rfl ?_
      refine lv_if_ne (tgt := 23) hx hb dX9_flown_16 (by decide) (fun c_16 => absurd rfl c_16) (fun _ => ?_)
      refine lv_ldc2 (v := (-2)) hx hb hown (hts _ kl_X9_106) dX9_flown_19 ?_
      exact ret_l hx hb hr hlocks ⟨⟨hS.1, hS.2.1⟩, G, hF, ⟨_, rfl, trivial⟩, hT⟩ hS.2.2 (Nat.le_of_ble_eq_true rfl) (Nat.le_of_ble_eq_true rfl) dX9_flown_22
  · skip
    have er_2 := hr_2_1
    subst er_2
    refine W.eq (g2 := F0 m 9 ls [.int 0]) rfl ?_
    refine lv_if_eq (tgt := 19) hx hb dX9_flown_9 (by decide) (fun _ => ?_) (fun c_17 => absurd (by decide) c_17)
    refine lv_ldc2 (v := (-2)) hx hb hown (hts _ kl_X9_106) dX9_flown_19 ?_
    exact ret_l hx hb hr hlocks ⟨⟨hS.1, hS.2.1⟩, G, hF, ⟨_, rfl, trivial⟩, hT⟩ hS.2.2 (Nat.le_of_ble_eq_true rfl) (Nat.le_of_ble_eq_true rfl) dX9_flown_22
set_option maxHeartbeats 4000000 in
set_option maxRecDepth 100000 in
theorem t_X9_plane (l : Launch) (D : va_G) (cy : Nat → ClassId) (base : Nat) (τ : Nat → Nat) (G : Gh) (a : Nat) (h_a : τ a = 1) (v0 : Int32) (v1 : Int32) : MM l yX9_plane cX9_plane 9 (some .int) 4 0 0 D cy [.ref a, .int v0, .int v1] (PT D cy base τ G) (QT D cy base τ G [3, 32, 36] (fun v g => ∃ r : Int32, v = some (.int r) ∧ (True))) (RA base) := by
  refine MM.of (by decide) (Nat.le_of_ble_eq_true rfl) ?_
  intro p e s m below meth c C hPT ls hl
  obtain ⟨hx, hb, hr, hml, hown, hts, hlocks, hK, hnm⟩ := C
  obtain ⟨hZ, hT⟩ := hPT
  have hS : va_S (RA base) s.heap s.heap [] := va_S.rf
  have hF : Fr τ [3, 32, 36] G G := Fr.rf
  have hl : lv_has ls 9 [(0, .ref a), (1, .int v0), (2, .int v1)] := hl
  refine lv_aload_n hx hb dX9_plane_0 rfl (lv_at hl 0 rfl) ?_
  refine t_getr cf_1 hx hb hts hown hK hT h_a (k := 10) (P := fun q => τ q = 7) rfl (fun _ h9 => h9) fl_X9_67 (fun _ h9 => h9) dX9_plane_1 (fun q_1 eq_1 hq_1 => ?_)
  refine lv_iload_n hx hb dX9_plane_4 rfl (lv_at hl 1 rfl) ?_
  refine lv_iload_n hx hb dX9_plane_5 rfl (lv_at hl 2 rfl) ?_
  refine pu_calli (runV (As := [.int v0, .int v1]) (rest := []) ⟨hx, hb, hml, hown, hts⟩ (t_X2_hasStore l D cy base τ G q_1 hq_1 v0 v1) sV_X9_160 hK (t_recv cf_7 hK hT hq_1) ⟨Nat.le_trans hZ hS.1, hT⟩ ⟨Nat.le_of_ble_eq_true rfl, Nat.le_of_ble_eq_true rfl⟩ rfl hl.1 rfl (Nat.le_of_ble_eq_true rfl) dX9_plane_6 ⟨Nat.le_of_ble_eq_true rfl, Nat.le_of_ble_eq_true rfl⟩) (fun r_2 hr_2 => ?_)
  have hr_2_c := hr_2
  rcases hr_2_c with hr_2_0 | hr_2_1
  · skip
    obtain ⟨er_2, hr_2_0_f0, hr_2_0_f1, hr_2_0_f2, hr_2_0_f3⟩ := hr_2_0
    have hr_2_0_f0 : 0 ≤ v0.toInt := hr_2_0_f0
    have hr_2_0_f1 : v0.toInt ≤ 5 := hr_2_0_f1
    have hr_2_0_f2 : 0 ≤ v1.toInt := hr_2_0_f2
    have hr_2_0_f3 : v1.toInt ≤ 2 := hr_2_0_f3
    subst er_2
    refine W.eq (g2 := F0 m 9 ls [.int 1]) rfl ?_
    refine lv_if_ne (tgt := 15) hx hb dX9_plane_9 (by decide) (fun _ => ?_) (fun c_3 => absurd c_3 (by decide))
    refine lv_aload_n hx hb dX9_plane_15 rfl (lv_at hl 0 rfl) ?_
    refine t_getr cf_1 hx hb hts hown hK hT h_a (k := 2) (P := fun q => τ q = 3) rfl (fun _ h9 => h9) fl_X9_23 (fun _ h9 => h9) dX9_plane_16 (fun q_4 eq_4 hq_4 => ?_)
    refine lv_aload_n hx hb dX9_plane_19 rfl (lv_at hl 0 rfl) ?_
    refine t_getr cf_1 hx hb hts hown hK hT h_a (k := 10) (P := fun q => τ q = 7) rfl (fun _ h9 => h9) fl_X9_67 (fun _ h9 => h9) dX9_plane_20 (fun q_5 eq_5 hq_5 => ?_)
    have w_6 : q_1 = q_5 := Option.some.inj (eq_1.symm.trans eq_5)
    subst w_6
    refine lv_iload_n hx hb dX9_plane_23 rfl (lv_at hl 1 rfl) ?_
    refine lv_iload_n hx hb dX9_plane_24 rfl (lv_at hl 2 rfl) ?_
    refine t_callv (runV (As := [.ref q_1, .int v0, .int v1]) (rest := []) ⟨hx, hb, hml, hown, hts⟩ (t_X8_gatherAlone l D cy base τ G q_4 hq_4 q_1 hq_1 v0 v1) sV_X9_184 hK (t_recv cf_3 hK hT hq_4) ⟨Nat.le_trans hZ hS.1, hT⟩ ⟨Nat.le_of_ble_eq_true rfl, Nat.le_of_ble_eq_true rfl⟩ rfl hl.1 rfl (Nat.le_of_ble_eq_true rfl) dX9_plane_25 ⟨Nat.le_of_ble_eq_true rfl, Nat.le_of_ble_eq_true rfl⟩) hS (fun G_7 H locs hF_7 hr_7 hT hS => ?_)
    have hF := hF.tr hF_7 rfl
    refine lv_iconst (v := 0) hx hb dX9_plane_28 (by decide) ?_
    refine lv_istore_n (lv' := [(3, .int 0), (0, .ref a), (1, .int v0), (2, .int v1)]) hx hb dX9_plane_29 rfl hl (by decide) rfl (fun ls hl => ?_)
    refine lv_aload_n hx hb dX9_plane_30 rfl (lv_at hl 1 rfl) ?_
    refine t_getr cf_1 hx hb hts hown hK hT h_a (k := 2) (P := fun q => τ q = 3) rfl (fun _ h9 => h9) fl_X9_23 (fun _ h9 => h9) dX9_plane_31 (fun q_8 eq_8 hq_8 => ?_)
    have w_9 : q_4 = q_8 := Option.some.inj (eq_4.symm.trans ((hF.r h_a (by decide) rfl _).symm.trans eq_8))
    subst w_9
    refine lv_aload_n hx hb dX9_plane_34 rfl (lv_at hl 1 rfl) ?_
    refine t_getr cf_1 hx hb hts hown hK hT h_a (k := 10) (P := fun q => τ q = 7) rfl (fun _ h9 => h9) fl_X9_67 (fun _ h9 => h9) dX9_plane_35 (fun q_10 eq_10 hq_10 => ?_)
    have w_11 : q_1 = q_10 := Option.some.inj (eq_1.symm.trans ((hF.r h_a (by decide) rfl _).symm.trans eq_10))
    subst w_11
    refine lv_iload_n hx hb dX9_plane_38 rfl (lv_at hl 3 rfl) ?_
    refine lv_iconst (v := 0) hx hb dX9_plane_39 (by decide) ?_
    refine pu_calll (runV (As := [.ref q_1, .int v1, .int 0]) (rest := []) ⟨hx, hb, hml, hown, hts⟩ (t_X8_flownWhole l D cy base τ G_7 q_4 hq_4 q_1 hq_1 v1 0) sV_X9_248 hK (t_recv cf_3 hK hT hq_4) ⟨Nat.le_trans hZ hS.1, hT⟩ ⟨Nat.le_of_ble_eq_true rfl, Nat.le_of_ble_eq_true rfl⟩ rfl hl.1 rfl (Nat.le_of_ble_eq_true rfl) dX9_plane_40 ⟨Nat.le_of_ble_eq_true rfl, Nat.le_of_ble_eq_true rfl⟩) (fun r_12 hr_12 => ?_)
    refine lv_lstore (lv' := [(4, .long r_12), (3, .int 0), (0, .ref a), (1, .int v0), (2, .int v1)]) hx hb dX9_plane_43 hl (by decide) rfl (fun ls hl => ?_)
    refine lv_iconst (v := 1) hx hb dX9_plane_45 (by decide) ?_
    refine lv_istore (lv' := [(6, .int 1), (4, .long r_12), (3, .int 0), (0, .ref a), (1, .int v0), (2, .int v1)]) hx hb dX9_plane_46 hl (by decide) rfl (fun ls hl => ?_)
    refine W.loop (σ := Int32 × Int64 × Int32 × Gh) (fun w13 H locs ls => 0 ≤ w13.2.2.1.toInt ∧ w13.2.2.1.toInt ≤ 1000 ∧ Fr τ [3, 32, 36] G w13.2.2.2 ∧ TY D cy base τ w13.2.2.2 H ∧ va_S (RA base) s.heap H locs ∧ lv_has ls 9 [(3, .int w13.1), (4, .long w13.2.1), (6, .int w13.2.2.1), (0, .ref a), (1, .int v0), (2, .int v1)]) (fun w13 => (1000 - w13.2.2.1.toInt).toNat) ?_ ((0 : Int32), r_12, (1 : Int32), G_7) _ _ _ ⟨(by show 0 ≤ (1 : Int32).toInt; decide), (by show (1 : Int32).toInt ≤ 1000; decide), hF, hT, hS, lv_sub hl [2, 1, 0, 3, 4, 5] rfl⟩
    intro w13 H locs ls hI ih13
    obtain ⟨x13_3, x13_4, x13_6, G_13⟩ := w13
    obtain ⟨i13_0, i13_1, hF, hT, hS, hl⟩ := hI
    have i13_0 : 0 ≤ x13_6.toInt := i13_0
    have i13_1 : x13_6.toInt ≤ 1000 := i13_1
    have hF : Fr τ [3, 32, 36] G G_13 := hF
    have hT : TY D cy base τ G_13 H := hT
    have hS : va_S (RA base) s.heap H locs := hS
    have hl : lv_has ls 9 [(3, .int x13_3), (4, .long x13_4), (6, .int x13_6), (0, .ref a), (1, .int v0), (2, .int v1)] := hl
    refine lv_iload hx hb dX9_plane_48 (lv_at hl 2 rfl) ?_
    refine lv_sipush (v := 999) hx hb dX9_plane_50 (by decide) ?_
    refine lv_icmp_gt (tgt := 93) hx hb dX9_plane_53 (by decide) (fun c_14 => ?_) (fun c_14 => ?_)
    · skip
      have tc_14 : 999 < x13_6.toInt := (fa_lt _ _).mp c_14
      refine lv_iload_n hx hb dX9_plane_93 rfl (lv_at hl 0 rfl) ?_
      exact ret_i hx hb hr hlocks ⟨⟨hS.1, hS.2.1⟩, G_13, hF, ⟨_, rfl, trivial⟩, hT⟩ hS.2.2 (Nat.le_of_ble_eq_true rfl) (Nat.le_of_ble_eq_true rfl) dX9_plane_94
    · skip
      have tc_14 : ¬ 999 < x13_6.toInt := fun h => c_14 ((fa_lt _ _).mpr h)
      refine lv_aload_n hx hb dX9_plane_56 rfl (lv_at hl 3 rfl) ?_
      refine t_getr cf_1 hx hb hts hown hK hT h_a (k := 2) (P := fun q => τ q = 3) rfl (fun _ h9 => h9) fl_X9_23 (fun _ h9 => h9) dX9_plane_57 (fun q_15 eq_15 hq_15 => ?_)
      have w_16 : q_4 = q_15 := Option.some.inj (eq_4.symm.trans ((hF.r h_a (by decide) rfl _).symm.trans eq_15))
      subst w_16
      refine lv_aload_n hx hb dX9_plane_60 rfl (lv_at hl 3 rfl) ?_
      refine t_getr cf_1 hx hb hts hown hK hT h_a (k := 10) (P := fun q => τ q = 7) rfl (fun _ h9 => h9) fl_X9_67 (fun _ h9 => h9) dX9_plane_61 (fun q_17 eq_17 hq_17 => ?_)
      have w_18 : q_1 = q_17 := Option.some.inj (eq_1.symm.trans ((hF.r h_a (by decide) rfl _).symm.trans eq_17))
      subst w_18
      refine lv_iload_n hx hb dX9_plane_64 rfl (lv_at hl 5 rfl) ?_
      refine lv_iload hx hb dX9_plane_65 (lv_at hl 2 rfl) ?_
      refine pu_calll (runV (As := [.ref q_1, .int v1, .int x13_6]) (rest := []) ⟨hx, hb, hml, hown, hts⟩ (t_X8_flownWhole l D cy base τ G_13 q_4 hq_4 q_1 hq_1 v1 x13_6) sV_X9_248 hK (t_recv cf_3 hK hT hq_4) ⟨Nat.le_trans hZ hS.1, hT⟩ ⟨Nat.le_of_ble_eq_true rfl, Nat.le_of_ble_eq_true rfl⟩ rfl hl.1 rfl (Nat.le_of_ble_eq_true rfl) dX9_plane_67 ⟨Nat.le_of_ble_eq_true rfl, Nat.le_of_ble_eq_true rfl⟩) (fun r_19 hr_19 => ?_)
      refine lv_lstore (lv' := [(7, .long r_19), (3, .int x13_3), (4, .long x13_4), (6, .int x13_6), (0, .ref a), (1, .int v0), (2, .int v1)]) hx hb dX9_plane_70 hl (by decide) rfl (fun ls hl => ?_)
      refine lv_lload hx hb dX9_plane_72 (lv_at hl 0 rfl) ?_
      refine lv_lload hx hb dX9_plane_74 (lv_at hl 2 rfl) ?_
      refine W.lcmp hx hb dX9_plane_76 ?_
      refine lv_topi (fun z_20 ez_20 => ?_)
      have tz_20 : (z_20.toInt < 0 ↔ r_19.toInt < x13_4.toInt) ∧ (0 < z_20.toInt ↔ x13_4.toInt < r_19.toInt) ∧ -1 ≤ z_20.toInt ∧ z_20.toInt ≤ 1 := cmp_t ez_20
      refine lv_if_ge (tgt := 87) hx hb dX9_plane_77 (by decide) (fun c_21 => ?_) (fun c_21 => ?_)
      · skip
        have tc_21 : 0 ≤ z_20.toInt := (fa_le _ _).mp c_21
        obtain ⟨z_22, ez_22⟩ : ∃ y : Int32, y = x13_6 + 1 := ⟨_, rfl⟩
        have tz_22 : z_22.toInt = x13_6.toInt + 1 := add_t ez_22 (show -2147483648 ≤ x13_6.toInt + 1 by omega) (show x13_6.toInt + 1 < 2147483648 by omega)
        refine lv_iinc (v := z_22) (lv' := [(6, .int z_22), (7, .long r_19), (3, .int x13_3), (4, .long x13_4), (0, .ref a), (1, .int v0), (2, .int v1)]) hx hb dX9_plane_87 hl (k := 3) rfl (by rw [ez_22]; rfl) (by decide) rfl (fun ls hl => ?_)
        refine lv_goto (tgt := 48) hx hb dX9_plane_90 (by decide) ?_
        exact ih13 (x13_3, x13_4, z_22, G_13) _ _ _ (by show (1000 - z_22.toInt).toNat < (1000 - x13_6.toInt).toNat; omega) ⟨(by show 0 ≤ z_22.toInt; omega), (by show z_22.toInt ≤ 1000; omega), hF, hT, hS, lv_sub hl [2, 3, 0, 4, 5, 6] rfl⟩
      · skip
        have tc_21 : ¬ 0 ≤ z_20.toInt := fun h => c_21 ((fa_le _ _).mpr h)
        refine lv_lload hx hb dX9_plane_80 (lv_at hl 0 rfl) ?_
        refine lv_lstore (lv' := [(4, .long r_19), (7, .long r_19), (3, .int x13_3), (6, .int x13_6), (0, .ref a), (1, .int v0), (2, .int v1)]) hx hb dX9_plane_82 hl (by decide) rfl (fun ls hl => ?_)
        refine lv_iload hx hb dX9_plane_84 (lv_at hl 3 rfl) ?_
        refine lv_istore_n (lv' := [(3, .int x13_6), (4, .long r_19), (7, .long r_19), (6, .int x13_6), (0, .ref a), (1, .int v0), (2, .int v1)]) hx hb dX9_plane_86 rfl hl (by decide) rfl (fun ls hl => ?_)
        obtain ⟨z_23, ez_23⟩ : ∃ y : Int32, y = x13_6 + 1 := ⟨_, rfl⟩
        have tz_23 : z_23.toInt = x13_6.toInt + 1 := add_t ez_23 (show -2147483648 ≤ x13_6.toInt + 1 by omega) (show x13_6.toInt + 1 < 2147483648 by omega)
        refine lv_iinc (v := z_23) (lv' := [(6, .int z_23), (3, .int x13_6), (4, .long r_19), (7, .long r_19), (0, .ref a), (1, .int v0), (2, .int v1)]) hx hb dX9_plane_87 hl (k := 3) rfl (by rw [ez_23]; rfl) (by decide) rfl (fun ls hl => ?_)
        refine lv_goto (tgt := 48) hx hb dX9_plane_90 (by decide) ?_
        exact ih13 (x13_6, r_19, z_23, G_13) _ _ _ (by show (1000 - z_23.toInt).toNat < (1000 - x13_6.toInt).toNat; omega) ⟨(by show 0 ≤ z_23.toInt; omega), (by show z_23.toInt ≤ 1000; omega), hF, hT, hS, lv_sub hl [1, 2, 0, 4, 5, 6] rfl⟩
  · skip
    have er_2 := hr_2_1
    subst er_2
    refine W.eq (g2 := F0 m 9 ls [.int 0]) rfl ?_
    refine lv_if_ne (tgt := 15) hx hb dX9_plane_9 (by decide) (fun c_24 => absurd rfl c_24) (fun _ => ?_)
    refine lv_bipush (v := (-2)) hx hb dX9_plane_12 (by decide) ?_
    exact ret_i hx hb hr hlocks ⟨⟨hS.1, hS.2.1⟩, G, hF, ⟨_, rfl, trivial⟩, hT⟩ hS.2.2 (Nat.le_of_ble_eq_true rfl) (Nat.le_of_ble_eq_true rfl) dX9_plane_14
set_option maxHeartbeats 4000000 in
set_option maxRecDepth 100000 in
theorem t_X9_edge (l : Launch) (D : va_G) (cy : Nat → ClassId) (base : Nat) (τ : Nat → Nat) (G : Gh) (a : Nat) (h_a : τ a = 1) (v0 : Int32) : MM l yX9_edge cX9_edge 4 (some .int) 1 0 0 D cy [.ref a, .int v0] (PT D cy base τ G) (PuI (fun r => True)) noF := by
  refine MM.of (by decide) (Nat.le_of_ble_eq_true rfl) ?_
  intro p e s m below meth c C hPT ls hl
  obtain ⟨hx, hb, hr, hml, hown, hts, hlocks, hK, hnm⟩ := C
  obtain ⟨hZ, hT⟩ := hPT
  have hS : va_S (RA base) s.heap s.heap [] := va_S.rf
  have hl : lv_has ls 4 [(0, .ref a), (1, .int v0)] := hl
  refine lv_aload_n hx hb dX9_edge_0 rfl (lv_at hl 0 rfl) ?_
  refine t_getr cf_1 hx hb hts hown hK hT h_a (k := 10) (P := fun q => τ q = 7) rfl (fun _ h9 => h9) fl_X9_67 (fun _ h9 => h9) dX9_edge_1 (fun q_1 eq_1 hq_1 => ?_)
  refine lv_iload_n hx hb dX9_edge_4 rfl (lv_at hl 1 rfl) ?_
  refine pu_calli (runV (As := [.int v0]) (rest := []) ⟨hx, hb, hml, hown, hts⟩ (t_X2_hasThing l D cy base τ G q_1 hq_1 v0) sV_X9_242 hK (t_recv cf_7 hK hT hq_1) ⟨Nat.le_trans hZ hS.1, hT⟩ ⟨Nat.le_of_ble_eq_true rfl, Nat.le_of_ble_eq_true rfl⟩ rfl hl.1 rfl (Nat.le_of_ble_eq_true rfl) dX9_edge_5 ⟨Nat.le_of_ble_eq_true rfl, Nat.le_of_ble_eq_true rfl⟩) (fun r_2 hr_2 => ?_)
  have hr_2_c := hr_2
  rcases hr_2_c with hr_2_0 | hr_2_1
  · skip
    obtain ⟨er_2, hr_2_0_f0, hr_2_0_f1⟩ := hr_2_0
    have hr_2_0_f0 : 0 ≤ v0.toInt := hr_2_0_f0
    have hr_2_0_f1 : v0.toInt ≤ 2 := hr_2_0_f1
    subst er_2
    refine W.eq (g2 := F0 m 8 ls [.int 1]) rfl ?_
    refine lv_if_ne (tgt := 14) hx hb dX9_edge_8 (by decide) (fun _ => ?_) (fun c_3 => absurd c_3 (by decide))
    refine lv_aload_n hx hb dX9_edge_14 rfl (lv_at hl 0 rfl) ?_
    refine t_getr cf_1 hx hb hts hown hK hT h_a (k := 10) (P := fun q => τ q = 7) rfl (fun _ h9 => h9) fl_X9_67 (fun _ h9 => h9) dX9_edge_15 (fun q_4 eq_4 hq_4 => ?_)
    have w_5 : q_1 = q_4 := Option.some.inj (eq_1.symm.trans eq_4)
    subst w_5
    refine t_getr cf_7 hx hb hts hown hK hT hq_1 (k := 15) (P := fun q => τ q = 26) rfl (fun _ h9 => h9) fl_X9_251 (fun _ h9 => h9) dX9_edge_18 (fun q_6 eq_6 hq_6 => ?_)
    refine lv_iload_n hx hb dX9_edge_21 rfl (lv_at hl 1 rfl) ?_
    refine t_iald (n := 3) (i := v0) rfl (by decide) hx hb hK hT hq_6 (hT.len hq_6 (by decide)) ⟨by omega, by omega⟩ dX9_edge_22 (fun z_7 ez_7 rz_7 => ?_)
    refine lv_istore_n (lv' := [(2, .int z_7), (0, .ref a), (1, .int v0)]) hx hb dX9_edge_23 rfl hl (by decide) rfl (fun ls hl => ?_)
    refine lv_aload_n hx hb dX9_edge_24 rfl (lv_at hl 1 rfl) ?_
    refine t_getr cf_1 hx hb hts hown hK hT h_a (k := 10) (P := fun q => τ q = 7) rfl (fun _ h9 => h9) fl_X9_67 (fun _ h9 => h9) dX9_edge_25 (fun q_8 eq_8 hq_8 => ?_)
    have w_9 : q_1 = q_8 := Option.some.inj (eq_1.symm.trans eq_8)
    subst w_9
    refine t_geti cf_7 hx hb hts hown hK hT hq_1 (k := 11) rfl fl_X9_254 (fun _ h9 => h9) dX9_edge_28 (fun z_10 ez_10 rz_10 => ?_)
    have ez_10 : z_10 = G.1 q_1 11 := ez_10
    refine lv_if_eq (tgt := 38) hx hb dX9_edge_31 (by decide) (fun c_11 => ?_) (fun c_11 => ?_)
    · skip
      have tc_11 : z_10.toInt = 0 := (fa_eq _ _).mp c_11
      refine lv_iconst (v := (-1)) hx hb dX9_edge_38 (by decide) ?_
      exact ret_i hx hb hr hlocks ⟨rfl, _, rfl, trivial⟩ (fun _ h => absurd h List.not_mem_nil) (Nat.le_refl _) (Nat.le_refl _) dX9_edge_39
    · skip
      have tc_11 : ¬ z_10.toInt = 0 := fun h => c_11 ((fa_eq _ _).mpr h)
      refine lv_iload_n hx hb dX9_edge_34 rfl (lv_at hl 0 rfl) ?_
      refine lv_if_ne (tgt := 40) hx hb dX9_edge_35 (by decide) (fun c_12 => ?_) (fun c_12 => ?_)
      · skip
        have tc_12 : ¬ z_7.toInt = 0 := fun h => c_12 ((fa_eq _ _).mpr h)
        refine lv_aload_n hx hb dX9_edge_40 rfl (lv_at hl 1 rfl) ?_
        refine t_getr cf_1 hx hb hts hown hK hT h_a (k := 10) (P := fun q => τ q = 7) rfl (fun _ h9 => h9) fl_X9_67 (fun _ h9 => h9) dX9_edge_41 (fun q_13 eq_13 hq_13 => ?_)
        have w_14 : q_1 = q_13 := Option.some.inj (eq_1.symm.trans eq_13)
        subst w_14
        refine t_geti cf_7 hx hb hts hown hK hT hq_1 (k := 12) rfl fl_X9_257 (fun _ h9 => h9) dX9_edge_44 (fun z_15 ez_15 rz_15 => ?_)
        have ez_15 : z_15 = G.1 q_1 12 := ez_15
        refine lv_iload_n hx hb dX9_edge_47 rfl (lv_at hl 0 rfl) ?_
        refine lv_idiv hx hb dX9_edge_48 (ne0_i (by omega)) ?_
        refine lv_topi (fun z_16 ez_16 => ?_)
        refine lv_iconst (v := 1) hx hb dX9_edge_49 (by decide) ?_
        refine lv_iadd hx hb dX9_edge_50 ?_
        refine lv_topi (fun z_17 ez_17 => ?_)
        refine lv_istore_n (lv' := [(3, .int z_17), (2, .int z_7), (0, .ref a), (1, .int v0)]) hx hb dX9_edge_51 rfl hl (by decide) rfl (fun ls hl => ?_)
        refine lv_iload_n hx hb dX9_edge_52 rfl (lv_at hl 0 rfl) ?_
        refine lv_aload_n hx hb dX9_edge_53 rfl (lv_at hl 2 rfl) ?_
        refine t_getr cf_1 hx hb hts hown hK hT h_a (k := 10) (P := fun q => τ q = 7) rfl (fun _ h9 => h9) fl_X9_67 (fun _ h9 => h9) dX9_edge_54 (fun q_18 eq_18 hq_18 => ?_)
        have w_19 : q_1 = q_18 := Option.some.inj (eq_1.symm.trans eq_18)
        subst w_19
        refine t_geti cf_7 hx hb hts hown hK hT hq_1 (k := 11) rfl fl_X9_254 (fun _ h9 => h9) dX9_edge_57 (fun z_20 ez_20 rz_20 => ?_)
        have w_21 : z_10 = z_20 := ez_10.trans ez_20.symm
        subst w_21
        refine lv_icmp_gt (tgt := 67) hx hb dX9_edge_60 (by decide) (fun c_22 => ?_) (fun c_22 => ?_)
        · skip
          have tc_22 : z_10.toInt < z_17.toInt := (fa_lt _ _).mp c_22
          have mc_22 : z_17.toInt ≤ 2147483647 := max_t z_17
          refine lv_iconst (v := (-1)) hx hb dX9_edge_67 (by decide) ?_
          exact ret_i hx hb hr hlocks ⟨rfl, _, rfl, trivial⟩ (fun _ h => absurd h List.not_mem_nil) (Nat.le_refl _) (Nat.le_refl _) dX9_edge_68
        · skip
          have tc_22 : ¬ z_10.toInt < z_17.toInt := fun h => c_22 ((fa_lt _ _).mpr h)
          refine lv_iload_n hx hb dX9_edge_63 rfl (lv_at hl 0 rfl) ?_
          refine lv_goto (tgt := 68) hx hb dX9_edge_64 (by decide) ?_
          exact ret_i hx hb hr hlocks ⟨rfl, _, rfl, trivial⟩ (fun _ h => absurd h List.not_mem_nil) (Nat.le_refl _) (Nat.le_refl _) dX9_edge_68
      · skip
        have tc_12 : z_7.toInt = 0 := (fa_eq _ _).mp c_12
        refine lv_iconst (v := (-1)) hx hb dX9_edge_38 (by decide) ?_
        exact ret_i hx hb hr hlocks ⟨rfl, _, rfl, trivial⟩ (fun _ h => absurd h List.not_mem_nil) (Nat.le_refl _) (Nat.le_refl _) dX9_edge_39
  · skip
    have er_2 := hr_2_1
    subst er_2
    refine W.eq (g2 := F0 m 8 ls [.int 0]) rfl ?_
    refine lv_if_ne (tgt := 14) hx hb dX9_edge_8 (by decide) (fun c_23 => absurd rfl c_23) (fun _ => ?_)
    refine lv_bipush (v := (-2)) hx hb dX9_edge_11 (by decide) ?_
    exact ret_i hx hb hr hlocks ⟨rfl, _, rfl, trivial⟩ (fun _ h => absurd h List.not_mem_nil) (Nat.le_refl _) (Nat.le_refl _) dX9_edge_13
set_option maxHeartbeats 4000000 in
set_option maxRecDepth 100000 in
theorem t_X9_path (l : Launch) (D : va_G) (cy : Nat → ClassId) (base : Nat) (τ : Nat → Nat) (G : Gh) (a : Nat) (h_a : τ a = 1) (v0 : Int32) (v1 : Int32) (v2 : Int32) (v3 : Int32) : MM l yX9_path cX9_path 5 (some .long) 6 0 0 D cy [.ref a, .int v0, .int v1, .int v2, .int v3] (PT D cy base τ G) (QT D cy base τ G [3, 32, 33, 34, 36, 37] (fun v g => ∃ r : Int64, v = some (.long r) ∧ (True))) (RA base) := by
  refine MM.of (by decide) (Nat.le_of_ble_eq_true rfl) ?_
  intro p e s m below meth c C hPT ls hl
  obtain ⟨hx, hb, hr, hml, hown, hts, hlocks, hK, hnm⟩ := C
  obtain ⟨hZ, hT⟩ := hPT
  have hS : va_S (RA base) s.heap s.heap [] := va_S.rf
  have hF : Fr τ [3, 32, 33, 34, 36, 37] G G := Fr.rf
  have hl : lv_has ls 5 [(0, .ref a), (1, .int v0), (2, .int v1), (3, .int v2), (4, .int v3)] := hl
  refine lv_aload_n hx hb dX9_path_0 rfl (lv_at hl 0 rfl) ?_
  refine t_getr cf_1 hx hb hts hown hK hT h_a (k := 10) (P := fun q => τ q = 7) rfl (fun _ h9 => h9) fl_X9_67 (fun _ h9 => h9) dX9_path_1 (fun q_1 eq_1 hq_1 => ?_)
  refine lv_iload_n hx hb dX9_path_4 rfl (lv_at hl 1 rfl) ?_
  refine lv_iload_n hx hb dX9_path_5 rfl (lv_at hl 2 rfl) ?_
  refine pu_calli (runV (As := [.int v0, .int v1]) (rest := []) ⟨hx, hb, hml, hown, hts⟩ (t_X2_hasTwo l D cy base τ G q_1 hq_1 v0 v1) sV_X9_125 hK (t_recv cf_7 hK hT hq_1) ⟨Nat.le_trans hZ hS.1, hT⟩ ⟨Nat.le_of_ble_eq_true rfl, Nat.le_of_ble_eq_true rfl⟩ rfl hl.1 rfl (Nat.le_of_ble_eq_true rfl) dX9_path_6 ⟨Nat.le_of_ble_eq_true rfl, Nat.le_of_ble_eq_true rfl⟩) (fun r_2 hr_2 => ?_)
  have hr_2_c := hr_2
  rcases hr_2_c with hr_2_0 | hr_2_1
  · skip
    obtain ⟨er_2, hr_2_0_f0, hr_2_0_f1, hr_2_0_f2, hr_2_0_f3⟩ := hr_2_0
    have hr_2_0_f0 : 0 ≤ v0.toInt := hr_2_0_f0
    have hr_2_0_f1 : v0.toInt ≤ 5 := hr_2_0_f1
    have hr_2_0_f2 : 0 ≤ v1.toInt := hr_2_0_f2
    have hr_2_0_f3 : v1.toInt ≤ 5 := hr_2_0_f3
    subst er_2
    refine W.eq (g2 := F0 m 9 ls [.int 1]) rfl ?_
    refine lv_if_eq (tgt := 31) hx hb dX9_path_9 (by decide) (fun c_3 => absurd c_3 (by decide)) (fun _ => ?_)
    refine lv_aload_n hx hb dX9_path_12 rfl (lv_at hl 0 rfl) ?_
    refine t_getr cf_1 hx hb hts hown hK hT h_a (k := 10) (P := fun q => τ q = 7) rfl (fun _ h9 => h9) fl_X9_67 (fun _ h9 => h9) dX9_path_13 (fun q_4 eq_4 hq_4 => ?_)
    have w_5 : q_1 = q_4 := Option.some.inj (eq_1.symm.trans eq_4)
    subst w_5
    refine lv_iload_n hx hb dX9_path_16 rfl (lv_at hl 3 rfl) ?_
    refine pu_calli (runV (As := [.int v2]) (rest := []) ⟨hx, hb, hml, hown, hts⟩ (t_X2_hasThing l D cy base τ G q_1 hq_1 v2) sV_X9_242 hK (t_recv cf_7 hK hT hq_1) ⟨Nat.le_trans hZ hS.1, hT⟩ ⟨Nat.le_of_ble_eq_true rfl, Nat.le_of_ble_eq_true rfl⟩ rfl hl.1 rfl (Nat.le_of_ble_eq_true rfl) dX9_path_17 ⟨Nat.le_of_ble_eq_true rfl, Nat.le_of_ble_eq_true rfl⟩) (fun r_6 hr_6 => ?_)
    have hr_6_c := hr_6
    rcases hr_6_c with hr_6_0 | hr_6_1
    · skip
      obtain ⟨er_6, hr_6_0_f0, hr_6_0_f1⟩ := hr_6_0
      have hr_6_0_f0 : 0 ≤ v2.toInt := hr_6_0_f0
      have hr_6_0_f1 : v2.toInt ≤ 2 := hr_6_0_f1
      subst er_6
      refine W.eq (g2 := F0 m 20 ls [.int 1]) rfl ?_
      refine lv_if_eq (tgt := 31) hx hb dX9_path_20 (by decide) (fun c_7 => absurd c_7 (by decide)) (fun _ => ?_)
      refine lv_iload hx hb dX9_path_23 (lv_at hl 4 rfl) ?_
      refine pu_calli (runS (As := [.int v3]) (rest := []) ⟨hx, hb, hml, hown, hts⟩ (t_X9_isSacks l D cy base τ G v3) sS_X9_167 hK ⟨Nat.le_trans hZ hS.1, hT⟩ ⟨Nat.le_of_ble_eq_true rfl, Nat.le_of_ble_eq_true rfl⟩ rfl hl.1 rfl (Nat.le_of_ble_eq_true rfl) dX9_path_25 ⟨Nat.le_of_ble_eq_true rfl, Nat.le_of_ble_eq_true rfl⟩) (fun r_8 hr_8 => ?_)
      have hr_8_c := hr_8
      rcases hr_8_c with hr_8_0 | hr_8_1
      · skip
        obtain ⟨er_8, hr_8_0_f0, hr_8_0_f1⟩ := hr_8_0
        have hr_8_0_f0 : 0 ≤ v3.toInt := hr_8_0_f0
        have hr_8_0_f1 : v3.toInt ≤ 999 := hr_8_0_f1
        subst er_8
        refine W.eq (g2 := F0 m 28 ls [.int 1]) rfl ?_
        refine lv_if_ne (tgt := 35) hx hb dX9_path_28 (by decide) (fun _ => ?_) (fun c_9 => absurd c_9 (by decide))
        refine lv_aload_n hx hb dX9_path_35 rfl (lv_at hl 0 rfl) ?_
        refine t_getr cf_1 hx hb hts hown hK hT h_a (k := 10) (P := fun q => τ q = 7) rfl (fun _ h9 => h9) fl_X9_67 (fun _ h9 => h9) dX9_path_36 (fun q_10 eq_10 hq_10 => ?_)
        have w_11 : q_1 = q_10 := Option.some.inj (eq_1.symm.trans eq_10)
        subst w_11
        refine lv_iload_n hx hb dX9_path_39 rfl (lv_at hl 1 rfl) ?_
        refine lv_iload_n hx hb dX9_path_40 rfl (lv_at hl 2 rfl) ?_
        refine pu_calli (runV (As := [.int v0, .int v1]) (rest := []) ⟨hx, hb, hml, hown, hts⟩ (t_X2_pathBetween l D cy base τ G q_1 hq_1 v0 v1) sV_X9_260 hK (t_recv cf_7 hK hT hq_1) ⟨Nat.le_trans hZ hS.1, hT⟩ ⟨Nat.le_of_ble_eq_true rfl, Nat.le_of_ble_eq_true rfl⟩ rfl hl.1 rfl (Nat.le_of_ble_eq_true rfl) dX9_path_41 ⟨Nat.le_of_ble_eq_true rfl, Nat.le_of_ble_eq_true rfl⟩) (fun r_12 hr_12 => ?_)
        refine lv_if_ne (tgt := 63) hx hb dX9_path_44 (by decide) (fun c_13 => ?_) (fun c_13 => ?_)
        · skip
          have tc_13 : ¬ r_12.toInt = 0 := fun h => c_13 ((fa_eq _ _).mpr h)
          refine lv_aload_n hx hb dX9_path_63 rfl (lv_at hl 0 rfl) ?_
          refine t_getr cf_1 hx hb hts hown hK hT h_a (k := 2) (P := fun q => τ q = 3) rfl (fun _ h9 => h9) fl_X9_23 (fun _ h9 => h9) dX9_path_64 (fun q_14 eq_14 hq_14 => ?_)
          refine lv_aload_n hx hb dX9_path_67 rfl (lv_at hl 0 rfl) ?_
          refine t_getr cf_1 hx hb hts hown hK hT h_a (k := 10) (P := fun q => τ q = 7) rfl (fun _ h9 => h9) fl_X9_67 (fun _ h9 => h9) dX9_path_68 (fun q_15 eq_15 hq_15 => ?_)
          have w_16 : q_1 = q_15 := Option.some.inj (eq_1.symm.trans eq_15)
          subst w_16
          refine lv_iload_n hx hb dX9_path_71 rfl (lv_at hl 1 rfl) ?_
          refine lv_iload_n hx hb dX9_path_72 rfl (lv_at hl 2 rfl) ?_
          refine lv_iload_n hx hb dX9_path_73 rfl (lv_at hl 3 rfl) ?_
          refine t_callv (runV (As := [.ref q_1, .int v0, .int v1, .int v2]) (rest := []) ⟨hx, hb, hml, hown, hts⟩ (t_X8_layPath l D cy base τ G q_14 hq_14 q_1 hq_1 v0 v1 v2) sV_X9_264 hK (t_recv cf_3 hK hT hq_14) ⟨Nat.le_trans hZ hS.1, hT⟩ ⟨Nat.le_of_ble_eq_true rfl, Nat.le_of_ble_eq_true rfl⟩ rfl hl.1 rfl (Nat.le_of_ble_eq_true rfl) dX9_path_74 ⟨Nat.le_of_ble_eq_true rfl, Nat.le_of_ble_eq_true rfl⟩) hS (fun G_17 H locs hF_17 hr_17 hT hS => ?_)
          have hF := hF.tr hF_17 rfl
          refine lv_aload_n hx hb dX9_path_77 rfl (lv_at hl 0 rfl) ?_
          refine t_getr cf_1 hx hb hts hown hK hT h_a (k := 2) (P := fun q => τ q = 3) rfl (fun _ h9 => h9) fl_X9_23 (fun _ h9 => h9) dX9_path_78 (fun q_18 eq_18 hq_18 => ?_)
          have w_19 : q_14 = q_18 := Option.some.inj (eq_14.symm.trans ((hF.r h_a (by decide) rfl _).symm.trans eq_18))
          subst w_19
          refine lv_iload hx hb dX9_path_81 (lv_at hl 4 rfl) ?_
          refine pu_calll (runV (As := [.int v3]) (rest := []) ⟨hx, hb, hml, hown, hts⟩ (t_X8_thousandths l D cy base τ G_17 q_14 hq_14 v3) sV_X9_173 hK (t_recv cf_3 hK hT hq_14) ⟨Nat.le_trans hZ hS.1, hT⟩ ⟨Nat.le_of_ble_eq_true rfl, Nat.le_of_ble_eq_true rfl⟩ rfl hl.1 rfl (Nat.le_of_ble_eq_true rfl) dX9_path_83 ⟨Nat.le_of_ble_eq_true rfl, Nat.le_of_ble_eq_true rfl⟩) (fun r_20 hr_20 => ?_)
          exact ret_l hx hb hr hlocks ⟨⟨hS.1, hS.2.1⟩, G_17, hF, ⟨_, rfl, trivial⟩, hT⟩ hS.2.2 (Nat.le_of_ble_eq_true rfl) (Nat.le_of_ble_eq_true rfl) dX9_path_86
        · skip
          have tc_13 : r_12.toInt = 0 := (fa_eq _ _).mp c_13
          refine lv_aload_n hx hb dX9_path_47 rfl (lv_at hl 0 rfl) ?_
          refine t_getr cf_1 hx hb hts hown hK hT h_a (k := 2) (P := fun q => τ q = 3) rfl (fun _ h9 => h9) fl_X9_23 (fun _ h9 => h9) dX9_path_48 (fun q_21 eq_21 hq_21 => ?_)
          refine lv_aload_n hx hb dX9_path_51 rfl (lv_at hl 0 rfl) ?_
          refine t_getr cf_1 hx hb hts hown hK hT h_a (k := 10) (P := fun q => τ q = 7) rfl (fun _ h9 => h9) fl_X9_67 (fun _ h9 => h9) dX9_path_52 (fun q_22 eq_22 hq_22 => ?_)
          have w_23 : q_1 = q_22 := Option.some.inj (eq_1.symm.trans eq_22)
          subst w_23
          refine lv_iload_n hx hb dX9_path_55 rfl (lv_at hl 1 rfl) ?_
          refine lv_iload_n hx hb dX9_path_56 rfl (lv_at hl 3 rfl) ?_
          refine t_callv (runV (As := [.ref q_1, .int v0, .int v2]) (rest := []) ⟨hx, hb, hml, hown, hts⟩ (t_X8_layAlone l D cy base τ G q_21 hq_21 q_1 hq_1 v0 v2) sV_X9_170 hK (t_recv cf_3 hK hT hq_21) ⟨Nat.le_trans hZ hS.1, hT⟩ ⟨Nat.le_of_ble_eq_true rfl, Nat.le_of_ble_eq_true rfl⟩ rfl hl.1 rfl (Nat.le_of_ble_eq_true rfl) dX9_path_57 ⟨Nat.le_of_ble_eq_true rfl, Nat.le_of_ble_eq_true rfl⟩) hS (fun G_24 H locs hF_24 hr_24 hT hS => ?_)
          have hF := hF.tr hF_24 rfl
          refine lv_goto (tgt := 77) hx hb dX9_path_60 (by decide) ?_
          refine lv_aload_n hx hb dX9_path_77 rfl (lv_at hl 0 rfl) ?_
          refine t_getr cf_1 hx hb hts hown hK hT h_a (k := 2) (P := fun q => τ q = 3) rfl (fun _ h9 => h9) fl_X9_23 (fun _ h9 => h9) dX9_path_78 (fun q_25 eq_25 hq_25 => ?_)
          have w_26 : q_21 = q_25 := Option.some.inj (eq_21.symm.trans ((hF.r h_a (by decide) rfl _).symm.trans eq_25))
          subst w_26
          refine lv_iload hx hb dX9_path_81 (lv_at hl 4 rfl) ?_
          refine pu_calll (runV (As := [.int v3]) (rest := []) ⟨hx, hb, hml, hown, hts⟩ (t_X8_thousandths l D cy base τ G_24 q_21 hq_21 v3) sV_X9_173 hK (t_recv cf_3 hK hT hq_21) ⟨Nat.le_trans hZ hS.1, hT⟩ ⟨Nat.le_of_ble_eq_true rfl, Nat.le_of_ble_eq_true rfl⟩ rfl hl.1 rfl (Nat.le_of_ble_eq_true rfl) dX9_path_83 ⟨Nat.le_of_ble_eq_true rfl, Nat.le_of_ble_eq_true rfl⟩) (fun r_27 hr_27 => ?_)
          exact ret_l hx hb hr hlocks ⟨⟨hS.1, hS.2.1⟩, G_24, hF, ⟨_, rfl, trivial⟩, hT⟩ hS.2.2 (Nat.le_of_ble_eq_true rfl) (Nat.le_of_ble_eq_true rfl) dX9_path_86
      · skip
        have er_8 := hr_8_1
        subst er_8
        refine W.eq (g2 := F0 m 28 ls [.int 0]) rfl ?_
        refine lv_if_ne (tgt := 35) hx hb dX9_path_28 (by decide) (fun c_28 => absurd rfl c_28) (fun _ => ?_)
        refine lv_ldc2 (v := (-2)) hx hb hown (hts _ kl_X9_106) dX9_path_31 ?_
        exact ret_l hx hb hr hlocks ⟨⟨hS.1, hS.2.1⟩, G, hF, ⟨_, rfl, trivial⟩, hT⟩ hS.2.2 (Nat.le_of_ble_eq_true rfl) (Nat.le_of_ble_eq_true rfl) dX9_path_34
    · skip
      have er_6 := hr_6_1
      subst er_6
      refine W.eq (g2 := F0 m 20 ls [.int 0]) rfl ?_
      refine lv_if_eq (tgt := 31) hx hb dX9_path_20 (by decide) (fun _ => ?_) (fun c_29 => absurd (by decide) c_29)
      refine lv_ldc2 (v := (-2)) hx hb hown (hts _ kl_X9_106) dX9_path_31 ?_
      exact ret_l hx hb hr hlocks ⟨⟨hS.1, hS.2.1⟩, G, hF, ⟨_, rfl, trivial⟩, hT⟩ hS.2.2 (Nat.le_of_ble_eq_true rfl) (Nat.le_of_ble_eq_true rfl) dX9_path_34
  · skip
    have er_2 := hr_2_1
    subst er_2
    refine W.eq (g2 := F0 m 9 ls [.int 0]) rfl ?_
    refine lv_if_eq (tgt := 31) hx hb dX9_path_9 (by decide) (fun _ => ?_) (fun c_30 => absurd (by decide) c_30)
    refine lv_ldc2 (v := (-2)) hx hb hown (hts _ kl_X9_106) dX9_path_31 ?_
    exact ret_l hx hb hr hlocks ⟨⟨hS.1, hS.2.1⟩, G, hF, ⟨_, rfl, trivial⟩, hT⟩ hS.2.2 (Nat.le_of_ble_eq_true rfl) (Nat.le_of_ble_eq_true rfl) dX9_path_34
set_option maxHeartbeats 4000000 in
set_option maxRecDepth 100000 in
theorem t_X9_fed (l : Launch) (D : va_G) (cy : Nat → ClassId) (base : Nat) (τ : Nat → Nat) (G : Gh) (a : Nat) (h_a : τ a = 1) (v0 : Int32) (v1 : Int32) : MM l yX9_fed cX9_fed 7 (some .int) 5 0 0 D cy [.ref a, .int v0, .int v1] (PT D cy base τ G) (QT D cy base τ G [33, 34] (fun v g => ∃ r : Int32, v = some (.int r) ∧ (True))) (RA base) := by
  refine MM.of (by decide) (Nat.le_of_ble_eq_true rfl) ?_
  intro p e s m below meth c C hPT ls hl
  obtain ⟨hx, hb, hr, hml, hown, hts, hlocks, hK, hnm⟩ := C
  obtain ⟨hZ, hT⟩ := hPT
  have hS : va_S (RA base) s.heap s.heap [] := va_S.rf
  have hF : Fr τ [33, 34] G G := Fr.rf
  have hl : lv_has ls 7 [(0, .ref a), (1, .int v0), (2, .int v1)] := hl
  refine lv_aload_n hx hb dX9_fed_0 rfl (lv_at hl 0 rfl) ?_
  refine t_getr cf_1 hx hb hts hown hK hT h_a (k := 10) (P := fun q => τ q = 7) rfl (fun _ h9 => h9) fl_X9_67 (fun _ h9 => h9) dX9_fed_1 (fun q_1 eq_1 hq_1 => ?_)
  refine lv_iload_n hx hb dX9_fed_4 rfl (lv_at hl 1 rfl) ?_
  refine lv_iload_n hx hb dX9_fed_5 rfl (lv_at hl 2 rfl) ?_
  refine pu_calli (runV (As := [.int v0, .int v1]) (rest := []) ⟨hx, hb, hml, hown, hts⟩ (t_X2_hasTwo l D cy base τ G q_1 hq_1 v0 v1) sV_X9_125 hK (t_recv cf_7 hK hT hq_1) ⟨Nat.le_trans hZ hS.1, hT⟩ ⟨Nat.le_of_ble_eq_true rfl, Nat.le_of_ble_eq_true rfl⟩ rfl hl.1 rfl (Nat.le_of_ble_eq_true rfl) dX9_fed_6 ⟨Nat.le_of_ble_eq_true rfl, Nat.le_of_ble_eq_true rfl⟩) (fun r_2 hr_2 => ?_)
  have hr_2_c := hr_2
  rcases hr_2_c with hr_2_0 | hr_2_1
  · skip
    obtain ⟨er_2, hr_2_0_f0, hr_2_0_f1, hr_2_0_f2, hr_2_0_f3⟩ := hr_2_0
    have hr_2_0_f0 : 0 ≤ v0.toInt := hr_2_0_f0
    have hr_2_0_f1 : v0.toInt ≤ 5 := hr_2_0_f1
    have hr_2_0_f2 : 0 ≤ v1.toInt := hr_2_0_f2
    have hr_2_0_f3 : v1.toInt ≤ 5 := hr_2_0_f3
    subst er_2
    refine W.eq (g2 := F0 m 9 ls [.int 1]) rfl ?_
    refine lv_if_ne (tgt := 15) hx hb dX9_fed_9 (by decide) (fun _ => ?_) (fun c_3 => absurd c_3 (by decide))
    refine lv_aload_n hx hb dX9_fed_15 rfl (lv_at hl 0 rfl) ?_
    refine t_getr cf_1 hx hb hts hown hK hT h_a (k := 10) (P := fun q => τ q = 7) rfl (fun _ h9 => h9) fl_X9_67 (fun _ h9 => h9) dX9_fed_16 (fun q_4 eq_4 hq_4 => ?_)
    have w_5 : q_1 = q_4 := Option.some.inj (eq_1.symm.trans eq_4)
    subst w_5
    refine lv_iload_n hx hb dX9_fed_19 rfl (lv_at hl 1 rfl) ?_
    refine lv_iload_n hx hb dX9_fed_20 rfl (lv_at hl 2 rfl) ?_
    refine pu_calli (runV (As := [.int v0, .int v1]) (rest := []) ⟨hx, hb, hml, hown, hts⟩ (t_X2_pathBetween l D cy base τ G q_1 hq_1 v0 v1) sV_X9_260 hK (t_recv cf_7 hK hT hq_1) ⟨Nat.le_trans hZ hS.1, hT⟩ ⟨Nat.le_of_ble_eq_true rfl, Nat.le_of_ble_eq_true rfl⟩ rfl hl.1 rfl (Nat.le_of_ble_eq_true rfl) dX9_fed_21 ⟨Nat.le_of_ble_eq_true rfl, Nat.le_of_ble_eq_true rfl⟩) (fun r_6 hr_6 => ?_)
    refine lv_if_ne (tgt := 29) hx hb dX9_fed_24 (by decide) (fun c_7 => ?_) (fun c_7 => ?_)
    · skip
      have tc_7 : ¬ r_6.toInt = 0 := fun h => c_7 ((fa_eq _ _).mpr h)
      refine lv_aload_n hx hb dX9_fed_29 rfl (lv_at hl 0 rfl) ?_
      refine t_getr cf_1 hx hb hts hown hK hT h_a (k := 2) (P := fun q => τ q = 3) rfl (fun _ h9 => h9) fl_X9_23 (fun _ h9 => h9) dX9_fed_30 (fun q_8 eq_8 hq_8 => ?_)
      refine t_getr cf_3 hx hb hts hown hK hT hq_8 (k := 0) (P := fun q => τ q = 8) rfl (fun _ h9 => h9) fl_X9_108 (fun _ h9 => h9) dX9_fed_33 (fun q_9 eq_9 hq_9 => ?_)
      refine lv_aload_n hx hb dX9_fed_36 rfl (lv_at hl 0 rfl) ?_
      refine t_getr cf_1 hx hb hts hown hK hT h_a (k := 10) (P := fun q => τ q = 7) rfl (fun _ h9 => h9) fl_X9_67 (fun _ h9 => h9) dX9_fed_37 (fun q_10 eq_10 hq_10 => ?_)
      have w_11 : q_1 = q_10 := Option.some.inj (eq_1.symm.trans eq_10)
      subst w_11
      refine lv_iload_n hx hb dX9_fed_40 rfl (lv_at hl 1 rfl) ?_
      refine lv_iload_n hx hb dX9_fed_41 rfl (lv_at hl 2 rfl) ?_
      refine t_callv (runV (As := [.ref q_1, .int v0, .int v1]) (rest := []) ⟨hx, hb, hml, hown, hts⟩ (t_X5_followTwo l D cy base τ G q_9 hq_9 q_1 hq_1 v0 v1) sV_X9_129 hK (t_recv cf_8 hK hT hq_9) ⟨Nat.le_trans hZ hS.1, hT⟩ ⟨Nat.le_of_ble_eq_true rfl, Nat.le_of_ble_eq_true rfl⟩ rfl hl.1 rfl (Nat.le_of_ble_eq_true rfl) dX9_fed_42 ⟨Nat.le_of_ble_eq_true rfl, Nat.le_of_ble_eq_true rfl⟩) hS (fun G_12 H locs hF_12 hr_12 hT hS => ?_)
      have hF := hF.tr hF_12 rfl
      refine lv_lconst (v := 0) hx hb dX9_fed_45 (by decide) ?_
      refine lv_lstore_n (lv' := [(3, .long 0), (0, .ref a), (1, .int v0), (2, .int v1)]) hx hb dX9_fed_46 rfl hl (by decide) rfl (fun ls hl => ?_)
      refine lv_iconst (v := 1) hx hb dX9_fed_47 (by decide) ?_
      refine lv_istore (lv' := [(5, .int 1), (3, .long 0), (0, .ref a), (1, .int v0), (2, .int v1)]) hx hb dX9_fed_48 hl (by decide) rfl (fun ls hl => ?_)
      refine W.loop (σ := Int64 × Int32 × Gh) (fun w13 H locs ls => 0 ≤ w13.2.1.toInt ∧ w13.2.1.toInt ≤ 61 ∧ Fr τ [33, 34] G w13.2.2 ∧ TY D cy base τ w13.2.2 H ∧ va_S (RA base) s.heap H locs ∧ lv_has ls 7 [(3, .long w13.1), (5, .int w13.2.1), (0, .ref a), (1, .int v0), (2, .int v1)]) (fun w13 => (61 - w13.2.1.toInt).toNat) ?_ ((0 : Int64), (1 : Int32), G_12) _ _ _ ⟨(by show 0 ≤ (1 : Int32).toInt; decide), (by show (1 : Int32).toInt ≤ 61; decide), hF, hT, hS, lv_sub hl [1, 0, 2, 3, 4] rfl⟩
      intro w13 H locs ls hI ih13
      obtain ⟨x13_3, x13_5, G_13⟩ := w13
      obtain ⟨i13_0, i13_1, hF, hT, hS, hl⟩ := hI
      have i13_0 : 0 ≤ x13_5.toInt := i13_0
      have i13_1 : x13_5.toInt ≤ 61 := i13_1
      have hF : Fr τ [33, 34] G G_13 := hF
      have hT : TY D cy base τ G_13 H := hT
      have hS : va_S (RA base) s.heap H locs := hS
      have hl : lv_has ls 7 [(3, .long x13_3), (5, .int x13_5), (0, .ref a), (1, .int v0), (2, .int v1)] := hl
      refine lv_iload hx hb dX9_fed_50 (lv_at hl 1 rfl) ?_
      refine lv_aload_n hx hb dX9_fed_52 rfl (lv_at hl 2 rfl) ?_
      refine t_getr cf_1 hx hb hts hown hK hT h_a (k := 10) (P := fun q => τ q = 7) rfl (fun _ h9 => h9) fl_X9_67 (fun _ h9 => h9) dX9_fed_53 (fun q_14 eq_14 hq_14 => ?_)
      have w_15 : q_1 = q_14 := Option.some.inj (eq_1.symm.trans ((hF.r h_a (by decide) rfl _).symm.trans eq_14))
      subst w_15
      refine t_geti cf_7 hx hb hts hown hK hT hq_1 (k := 1) rfl fl_X9_155 (fun _ h9 => h9) dX9_fed_56 (fun z_16 ez_16 rz_16 => ?_)
      have ez_16 : z_16 = G_13.1 q_1 1 := ez_16
      have rz_16 : 0 ≤ z_16.toInt ∧ z_16.toInt ≤ 60 := rz_16
      have ez_16 : z_16 = G.1 q_1 1 := ez_16.trans (hF.i hq_1 (by decide) rfl _)
      refine lv_icmp_gt (tgt := 121) hx hb dX9_fed_59 (by decide) (fun c_17 => ?_) (fun c_17 => ?_)
      · skip
        have tc_17 : z_16.toInt < x13_5.toInt := (fa_lt _ _).mp c_17
        refine lv_lload_n hx hb dX9_fed_121 rfl (lv_at hl 0 rfl) ?_
        refine lv_ldc2 (v := 10000000000) hx hb hown (hts _ kl_X9_271) dX9_fed_122 ?_
        refine lv_ldiv hx hb dX9_fed_125 (by decide) ?_
        refine lv_topl (fun z_18 ez_18 => ?_)
        refine lv_l2i hx hb dX9_fed_126 rfl ?_
        refine lv_topi (fun z_19 ez_19 => ?_)
        exact ret_i hx hb hr hlocks ⟨⟨hS.1, hS.2.1⟩, G_13, hF, ⟨_, rfl, trivial⟩, hT⟩ hS.2.2 (Nat.le_of_ble_eq_true rfl) (Nat.le_of_ble_eq_true rfl) dX9_fed_127
      · skip
        have tc_17 : ¬ z_16.toInt < x13_5.toInt := fun h => c_17 ((fa_lt _ _).mpr h)
        refine lv_iconst (v := 0) hx hb dX9_fed_62 (by decide) ?_
        refine lv_istore (lv' := [(6, .int 0), (3, .long x13_3), (5, .int x13_5), (0, .ref a), (1, .int v0), (2, .int v1)]) hx hb dX9_fed_63 hl (by decide) rfl (fun ls hl => ?_)
        refine W.loop (σ := Int64 × Int32 × Gh) (fun w20 H locs ls => 0 ≤ w20.2.1.toInt ∧ w20.2.1.toInt ≤ 61 ∧ Fr τ [33, 34] G w20.2.2 ∧ TY D cy base τ w20.2.2 H ∧ va_S (RA base) s.heap H locs ∧ lv_has ls 7 [(3, .long w20.1), (6, .int w20.2.1), (5, .int x13_5), (0, .ref a), (1, .int v0), (2, .int v1)]) (fun w20 => (61 - w20.2.1.toInt).toNat) ?_ (x13_3, (0 : Int32), G_13) _ _ _ ⟨(by show 0 ≤ (0 : Int32).toInt; decide), (by show (0 : Int32).toInt ≤ 61; decide), hF, hT, hS, lv_sub hl [1, 0, 2, 3, 4, 5] rfl⟩
        intro w20 H locs ls hI ih20
        obtain ⟨x20_3, x20_6, G_20⟩ := w20
        obtain ⟨i20_0, i20_1, hF, hT, hS, hl⟩ := hI
        have i20_0 : 0 ≤ x20_6.toInt := i20_0
        have i20_1 : x20_6.toInt ≤ 61 := i20_1
        have hF : Fr τ [33, 34] G G_20 := hF
        have hT : TY D cy base τ G_20 H := hT
        have hS : va_S (RA base) s.heap H locs := hS
        have hl : lv_has ls 7 [(3, .long x20_3), (6, .int x20_6), (5, .int x13_5), (0, .ref a), (1, .int v0), (2, .int v1)] := hl
        refine lv_iload hx hb dX9_fed_65 (lv_at hl 1 rfl) ?_
        refine lv_aload_n hx hb dX9_fed_67 rfl (lv_at hl 3 rfl) ?_
        refine t_getr cf_1 hx hb hts hown hK hT h_a (k := 10) (P := fun q => τ q = 7) rfl (fun _ h9 => h9) fl_X9_67 (fun _ h9 => h9) dX9_fed_68 (fun q_21 eq_21 hq_21 => ?_)
        have w_22 : q_1 = q_21 := Option.some.inj (eq_1.symm.trans ((hF.r h_a (by decide) rfl _).symm.trans eq_21))
        subst w_22
        refine t_geti cf_7 hx hb hts hown hK hT hq_1 (k := 1) rfl fl_X9_155 (fun _ h9 => h9) dX9_fed_71 (fun z_23 ez_23 rz_23 => ?_)
        have w_24 : z_16 = z_23 := ez_16.trans (ez_23.trans (hF.i hq_1 (by decide) rfl _)).symm
        subst w_24
        refine lv_icmp_gt (tgt := 115) hx hb dX9_fed_74 (by decide) (fun c_25 => ?_) (fun c_25 => ?_)
        · skip
          have tc_25 : z_16.toInt < x20_6.toInt := (fa_lt _ _).mp c_25
          obtain ⟨z_26, ez_26⟩ : ∃ y : Int32, y = x13_5 + 1 := ⟨_, rfl⟩
          have tz_26 : z_26.toInt = x13_5.toInt + 1 := add_t ez_26 (show -2147483648 ≤ x13_5.toInt + 1 by omega) (show x13_5.toInt + 1 < 2147483648 by omega)
          refine lv_iinc (v := z_26) (lv' := [(5, .int z_26), (3, .long x20_3), (6, .int x20_6), (0, .ref a), (1, .int v0), (2, .int v1)]) hx hb dX9_fed_115 hl (k := 2) rfl (by rw [ez_26]; rfl) (by decide) rfl (fun ls hl => ?_)
          refine lv_goto (tgt := 50) hx hb dX9_fed_118 (by decide) ?_
          exact ih13 (x20_3, z_26, G_20) _ _ _ (by show (61 - z_26.toInt).toNat < (61 - x13_5.toInt).toNat; omega) ⟨(by show 0 ≤ z_26.toInt; omega), (by show z_26.toInt ≤ 61; omega), hF, hT, hS, lv_sub hl [1, 0, 3, 4, 5] rfl⟩
        · skip
          have tc_25 : ¬ z_16.toInt < x20_6.toInt := fun h => c_25 ((fa_lt _ _).mpr h)
          refine lv_lload_n hx hb dX9_fed_77 rfl (lv_at hl 0 rfl) ?_
          refine lv_aload_n hx hb dX9_fed_78 rfl (lv_at hl 3 rfl) ?_
          refine t_getr cf_1 hx hb hts hown hK hT h_a (k := 2) (P := fun q => τ q = 3) rfl (fun _ h9 => h9) fl_X9_23 (fun _ h9 => h9) dX9_fed_79 (fun q_27 eq_27 hq_27 => ?_)
          have w_28 : q_8 = q_27 := Option.some.inj (eq_8.symm.trans ((hF.r h_a (by decide) rfl _).symm.trans eq_27))
          subst w_28
          refine t_getr cf_3 hx hb hts hown hK hT hq_8 (k := 0) (P := fun q => τ q = 8) rfl (fun _ h9 => h9) fl_X9_108 (fun _ h9 => h9) dX9_fed_82 (fun q_29 eq_29 hq_29 => ?_)
          have w_30 : q_9 = q_29 := Option.some.inj (eq_9.symm.trans ((hF.r hq_8 (by decide) rfl _).symm.trans eq_29))
          subst w_30
          refine lv_iload hx hb dX9_fed_85 (lv_at hl 2 rfl) ?_
          refine lv_iload hx hb dX9_fed_87 (lv_at hl 1 rfl) ?_
          refine pu_calll (runV (As := [.int x13_5, .int x20_6]) (rest := [.long x20_3]) ⟨hx, hb, hml, hown, hts⟩ (t_X5_partsOnTwo l D cy base τ G_20 q_9 hq_9 x13_5 x20_6) sV_X9_133 hK (t_recv cf_8 hK hT hq_9) ⟨Nat.le_trans hZ hS.1, hT⟩ ⟨Nat.le_of_ble_eq_true rfl, Nat.le_of_ble_eq_true rfl⟩ rfl hl.1 rfl (Nat.le_of_ble_eq_true rfl) dX9_fed_89 ⟨Nat.le_of_ble_eq_true rfl, Nat.le_of_ble_eq_true rfl⟩) (fun r_31 hr_31 => ?_)
          refine lv_aload_n hx hb dX9_fed_92 rfl (lv_at hl 3 rfl) ?_
          refine t_getr cf_1 hx hb hts hown hK hT h_a (k := 10) (P := fun q => τ q = 7) rfl (fun _ h9 => h9) fl_X9_67 (fun _ h9 => h9) dX9_fed_93 (fun q_32 eq_32 hq_32 => ?_)
          have w_33 : q_1 = q_32 := Option.some.inj (eq_1.symm.trans ((hF.r h_a (by decide) rfl _).symm.trans eq_32))
          subst w_33
          refine lv_iload_n hx hb dX9_fed_96 rfl (lv_at hl 4 rfl) ?_
          refine lv_iload_n hx hb dX9_fed_97 rfl (lv_at hl 5 rfl) ?_
          refine lv_iload hx hb dX9_fed_98 (lv_at hl 2 rfl) ?_
          refine lv_iload hx hb dX9_fed_100 (lv_at hl 1 rfl) ?_
          refine pu_calli (runV (As := [.int v0, .int v1, .int x13_5, .int x20_6]) (rest := [.long r_31, .long x20_3]) ⟨hx, hb, hml, hown, hts⟩ (t_X2_fedDays l D cy base τ G_20 q_1 hq_1 v0 v1 x13_5 x20_6) sV_X9_267 hK (t_recv cf_7 hK hT hq_1) ⟨Nat.le_trans hZ hS.1, hT⟩ ⟨Nat.le_of_ble_eq_true rfl, Nat.le_of_ble_eq_true rfl⟩ rfl hl.1 rfl (Nat.le_of_ble_eq_true rfl) dX9_fed_102 ⟨Nat.le_of_ble_eq_true rfl, Nat.le_of_ble_eq_true rfl⟩) (fun r_34 hr_34 => ?_)
          refine lv_i2l hx hb dX9_fed_105 rfl ?_
          refine lv_topl (fun z_35 ez_35 => ?_)
          have tz_35 : z_35.toInt = r_34.toInt := by rw [ez_35]; exact wide_t r_34
          have az_35 := min_t r_34
          have bz_35 := max_t r_34
          refine lv_lmul hx hb dX9_fed_106 ?_
          refine lv_topl (fun z_36 ez_36 => ?_)
          refine lv_ladd hx hb dX9_fed_107 ?_
          refine lv_topl (fun z_37 ez_37 => ?_)
          refine lv_lstore_n (lv' := [(3, .long z_37), (6, .int x20_6), (5, .int x13_5), (0, .ref a), (1, .int v0), (2, .int v1)]) hx hb dX9_fed_108 rfl hl (by decide) rfl (fun ls hl => ?_)
          obtain ⟨z_38, ez_38⟩ : ∃ y : Int32, y = x20_6 + 1 := ⟨_, rfl⟩
          have tz_38 : z_38.toInt = x20_6.toInt + 1 := add_t ez_38 (show -2147483648 ≤ x20_6.toInt + 1 by omega) (show x20_6.toInt + 1 < 2147483648 by omega)
          refine lv_iinc (v := z_38) (lv' := [(6, .int z_38), (3, .long z_37), (5, .int x13_5), (0, .ref a), (1, .int v0), (2, .int v1)]) hx hb dX9_fed_109 hl (k := 1) rfl (by rw [ez_38]; rfl) (by decide) rfl (fun ls hl => ?_)
          refine lv_goto (tgt := 65) hx hb dX9_fed_112 (by decide) ?_
          exact ih20 (z_37, z_38, G_20) _ _ _ (by show (61 - z_38.toInt).toNat < (61 - x20_6.toInt).toNat; omega) ⟨(by show 0 ≤ z_38.toInt; omega), (by show z_38.toInt ≤ 61; omega), hF, hT, hS, lv_sub hl [1, 0, 2, 3, 4, 5] rfl⟩
    · skip
      have tc_7 : r_6.toInt = 0 := (fa_eq _ _).mp c_7
      refine lv_iconst (v := 0) hx hb dX9_fed_27 (by decide) ?_
      exact ret_i hx hb hr hlocks ⟨⟨hS.1, hS.2.1⟩, G, hF, ⟨_, rfl, trivial⟩, hT⟩ hS.2.2 (Nat.le_of_ble_eq_true rfl) (Nat.le_of_ble_eq_true rfl) dX9_fed_28
  · skip
    have er_2 := hr_2_1
    subst er_2
    refine W.eq (g2 := F0 m 9 ls [.int 0]) rfl ?_
    refine lv_if_ne (tgt := 15) hx hb dX9_fed_9 (by decide) (fun c_39 => absurd rfl c_39) (fun _ => ?_)
    refine lv_bipush (v := (-2)) hx hb dX9_fed_12 (by decide) ?_
    exact ret_i hx hb hr hlocks ⟨⟨hS.1, hS.2.1⟩, G, hF, ⟨_, rfl, trivial⟩, hT⟩ hS.2.2 (Nat.le_of_ble_eq_true rfl) (Nat.le_of_ble_eq_true rfl) dX9_fed_14
set_option maxHeartbeats 4000000 in
set_option maxRecDepth 100000 in
theorem t_X9_shareState (l : Launch) (D : va_G) (cy : Nat → ClassId) (base : Nat) (τ : Nat → Nat) (G : Gh) (a : Nat) (h_a : τ a = 1) (v0 : Int32) (v1 : Int32) (v2 : Int32) (v3 : Int32) : MM l yX9_shareState cX9_shareState 6 (some .int) 2 0 0 D cy [.ref a, .int v0, .int v1, .int v2, .int v3] (PT D cy base τ G) (QT D cy base τ G [39] (fun v g => ∃ r : Int32, v = some (.int r) ∧ (((r = 0 ∧ 0 ≤ v1.toInt ∧ v1.toInt ≤ 1 ∧ 0 ≤ v2.toInt ∧ v2.toInt ≤ 99999 ∧ 0 ≤ v3.toInt ∧ v3.toInt ≤ 5) ∨ (r = (-2)) ∨ (r = (-6)))))) (RA base) := by
  refine MM.of (by decide) (Nat.le_of_ble_eq_true rfl) ?_
  intro p e s m below meth c C hPT ls hl
  obtain ⟨hx, hb, hr, hml, hown, hts, hlocks, hK, hnm⟩ := C
  obtain ⟨hZ, hT⟩ := hPT
  have hS : va_S (RA base) s.heap s.heap [] := va_S.rf
  have hF : Fr τ [39] G G := Fr.rf
  have hl : lv_has ls 6 [(0, .ref a), (1, .int v0), (2, .int v1), (3, .int v2), (4, .int v3)] := hl
  refine lv_iload_n hx hb dX9_shareState_0 rfl (lv_at hl 1 rfl) ?_
  refine pu_calli (runS (As := [.int v0]) (rest := []) ⟨hx, hb, hml, hown, hts⟩ (t_X9_isSlot l D cy base τ G v0) sS_X9_312 hK ⟨Nat.le_trans hZ hS.1, hT⟩ ⟨Nat.le_of_ble_eq_true rfl, Nat.le_of_ble_eq_true rfl⟩ rfl hl.1 rfl (Nat.le_of_ble_eq_true rfl) dX9_shareState_1 ⟨Nat.le_of_ble_eq_true rfl, Nat.le_of_ble_eq_true rfl⟩) (fun r_1 hr_1 => ?_)
  have hr_1_c := hr_1
  rcases hr_1_c with hr_1_0 | hr_1_1
  · skip
    obtain ⟨er_1, hr_1_0_f0, hr_1_0_f1⟩ := hr_1_0
    have hr_1_0_f0 : 0 ≤ v0.toInt := hr_1_0_f0
    have hr_1_0_f1 : v0.toInt ≤ 3 := hr_1_0_f1
    subst er_1
    refine W.eq (g2 := F0 m 4 ls [.int 1]) rfl ?_
    refine lv_if_eq (tgt := 39) hx hb dX9_shareState_4 (by decide) (fun c_2 => absurd c_2 (by decide)) (fun _ => ?_)
    refine lv_iload_n hx hb dX9_shareState_7 rfl (lv_at hl 2 rfl) ?_
    refine lv_if_lt (tgt := 39) hx hb dX9_shareState_8 (by decide) (fun c_3 => ?_) (fun c_3 => ?_)
    · skip
      have tc_3 : v1.toInt < 0 := (fa_lt _ _).mp c_3
      refine lv_bipush (v := (-2)) hx hb dX9_shareState_39 (by decide) ?_
      exact ret_i hx hb hr hlocks ⟨⟨hS.1, hS.2.1⟩, G, hF, ⟨_, rfl, (Or.inr (Or.inl rfl))⟩, hT⟩ hS.2.2 (Nat.le_of_ble_eq_true rfl) (Nat.le_of_ble_eq_true rfl) dX9_shareState_41
    · skip
      have tc_3 : ¬ v1.toInt < 0 := fun h => c_3 ((fa_lt _ _).mpr h)
      refine lv_iload_n hx hb dX9_shareState_11 rfl (lv_at hl 2 rfl) ?_
      refine lv_iconst (v := 1) hx hb dX9_shareState_12 (by decide) ?_
      refine lv_icmp_gt (tgt := 39) hx hb dX9_shareState_13 (by decide) (fun c_4 => ?_) (fun c_4 => ?_)
      · skip
        have tc_4 : 1 < v1.toInt := (fa_lt _ _).mp c_4
        have mc_4 : v1.toInt ≤ 2147483647 := max_t v1
        refine lv_bipush (v := (-2)) hx hb dX9_shareState_39 (by decide) ?_
        exact ret_i hx hb hr hlocks ⟨⟨hS.1, hS.2.1⟩, G, hF, ⟨_, rfl, (Or.inr (Or.inl rfl))⟩, hT⟩ hS.2.2 (Nat.le_of_ble_eq_true rfl) (Nat.le_of_ble_eq_true rfl) dX9_shareState_41
      · skip
        have tc_4 : ¬ 1 < v1.toInt := fun h => c_4 ((fa_lt _ _).mpr h)
        refine lv_iload_n hx hb dX9_shareState_16 rfl (lv_at hl 3 rfl) ?_
        refine lv_if_lt (tgt := 39) hx hb dX9_shareState_17 (by decide) (fun c_5 => ?_) (fun c_5 => ?_)
        · skip
          have tc_5 : v2.toInt < 0 := (fa_lt _ _).mp c_5
          refine lv_bipush (v := (-2)) hx hb dX9_shareState_39 (by decide) ?_
          exact ret_i hx hb hr hlocks ⟨⟨hS.1, hS.2.1⟩, G, hF, ⟨_, rfl, (Or.inr (Or.inl rfl))⟩, hT⟩ hS.2.2 (Nat.le_of_ble_eq_true rfl) (Nat.le_of_ble_eq_true rfl) dX9_shareState_41
        · skip
          have tc_5 : ¬ v2.toInt < 0 := fun h => c_5 ((fa_lt _ _).mpr h)
          refine lv_iload_n hx hb dX9_shareState_20 rfl (lv_at hl 3 rfl) ?_
          refine lv_ldcw (v := 99999) hx hb hown (hts _ ki_X9_384) dX9_shareState_21 ?_
          refine lv_icmp_gt (tgt := 39) hx hb dX9_shareState_24 (by decide) (fun c_6 => ?_) (fun c_6 => ?_)
          · skip
            have tc_6 : 99999 < v2.toInt := (fa_lt _ _).mp c_6
            have mc_6 : v2.toInt ≤ 2147483647 := max_t v2
            refine lv_bipush (v := (-2)) hx hb dX9_shareState_39 (by decide) ?_
            exact ret_i hx hb hr hlocks ⟨⟨hS.1, hS.2.1⟩, G, hF, ⟨_, rfl, (Or.inr (Or.inl rfl))⟩, hT⟩ hS.2.2 (Nat.le_of_ble_eq_true rfl) (Nat.le_of_ble_eq_true rfl) dX9_shareState_41
          · skip
            have tc_6 : ¬ 99999 < v2.toInt := fun h => c_6 ((fa_lt _ _).mpr h)
            refine lv_aload_n hx hb dX9_shareState_27 rfl (lv_at hl 0 rfl) ?_
            refine t_getr cf_1 hx hb hts hown hK hT h_a (k := 10) (P := fun q => τ q = 7) rfl (fun _ h9 => h9) fl_X9_67 (fun _ h9 => h9) dX9_shareState_28 (fun q_7 eq_7 hq_7 => ?_)
            refine lv_iload hx hb dX9_shareState_31 (lv_at hl 4 rfl) ?_
            refine pu_calli (runV (As := [.int v3]) (rest := []) ⟨hx, hb, hml, hown, hts⟩ (t_X2_hasValley l D cy base τ G q_7 hq_7 v3) sV_X9_99 hK (t_recv cf_7 hK hT hq_7) ⟨Nat.le_trans hZ hS.1, hT⟩ ⟨Nat.le_of_ble_eq_true rfl, Nat.le_of_ble_eq_true rfl⟩ rfl hl.1 rfl (Nat.le_of_ble_eq_true rfl) dX9_shareState_33 ⟨Nat.le_of_ble_eq_true rfl, Nat.le_of_ble_eq_true rfl⟩) (fun r_8 hr_8 => ?_)
            have hr_8_c := hr_8
            rcases hr_8_c with hr_8_0 | hr_8_1
            · skip
              obtain ⟨er_8, hr_8_0_f0, hr_8_0_f1⟩ := hr_8_0
              have hr_8_0_f0 : 0 ≤ v3.toInt := hr_8_0_f0
              have hr_8_0_f1 : v3.toInt ≤ 5 := hr_8_0_f1
              subst er_8
              refine W.eq (g2 := F0 m 36 ls [.int 1]) rfl ?_
              refine lv_if_ne (tgt := 42) hx hb dX9_shareState_36 (by decide) (fun _ => ?_) (fun c_9 => absurd c_9 (by decide))
              refine lv_aload_n hx hb dX9_shareState_42 rfl (lv_at hl 0 rfl) ?_
              refine t_getr cf_1 hx hb hts hown hK hT h_a (k := 7) (P := fun q => τ q = 23) rfl (fun _ h9 => h9) fl_X9_54 (fun _ h9 => h9) dX9_shareState_43 (fun q_10 eq_10 hq_10 => ?_)
              refine lv_iload_n hx hb dX9_shareState_46 rfl (lv_at hl 1 rfl) ?_
              refine t_aald4 (n := 4) (i := v0) (P := fun q => τ q = 9) rfl (by decide) hx hb hK hT hq_10 (hT.len hq_10 (by decide)) ⟨by omega, by omega⟩ (fun _ _ h9 => h9) dX9_shareState_47 (fun eq_11 => ?_) (fun q_11 eq_11 hq_11 => ?_)
              · skip
                refine lv_astoreN (lv' := [(5, .null), (0, .ref a), (1, .int v0), (2, .int v1), (3, .int v2), (4, .int v3)]) hx hb dX9_shareState_48 hl (by decide) rfl (fun ls hl => ?_)
                refine lv_aloadN hx hb dX9_shareState_50 (lv_at hl 0 rfl) ?_
                refine lv_ifnonnullN hx hb dX9_shareState_52 ?_
                refine lv_bipush (v := (-6)) hx hb dX9_shareState_55 (by decide) ?_
                exact ret_i hx hb hr hlocks ⟨⟨hS.1, hS.2.1⟩, G, hF, ⟨_, rfl, (Or.inr (Or.inr rfl))⟩, hT⟩ hS.2.2 (Nat.le_of_ble_eq_true rfl) (Nat.le_of_ble_eq_true rfl) dX9_shareState_57
              · skip
                refine lv_astore (lv' := [(5, .ref q_11), (0, .ref a), (1, .int v0), (2, .int v1), (3, .int v2), (4, .int v3)]) hx hb dX9_shareState_48 hl (by decide) rfl (fun ls hl => ?_)
                refine lv_aload hx hb dX9_shareState_50 (lv_at hl 0 rfl) ?_
                refine lv_ifnonnull (tgt := 58) hx hb dX9_shareState_52 (by decide) ?_
                refine lv_aload hx hb dX9_shareState_58 (lv_at hl 0 rfl) ?_
                refine t_getr cf_9 hx hb hts hown hK hT hq_11 (k := 1) (P := fun q => τ q = 40) rfl (fun _ h9 => h9) fl_X9_315 (fun _ h9 => h9) dX9_shareState_60 (fun q_12 eq_12 hq_12 => ?_)
                obtain ⟨n_13, en_13⟩ : ∃ y : Nat, y = G.2.2.2 q_12 := ⟨_, rfl⟩
                have rn_13 : n_13 ≤ 60 := by rw [en_13]; exact hT.len hq_12 (by decide)
                refine t_alen (v := Int32.ofNat n_13) rfl (by decide) hx hb hK hT hq_12 rfl (by rw [show _ = n_13 from (en_13.symm)]) dX9_shareState_63 ?_
                refine lv_topi (fun z_14 ez_14 => ?_)
                have tz_14 : z_14.toInt = n_13 := len_t ez_14 (by omega)
                refine lv_aload_n hx hb dX9_shareState_64 rfl (lv_at hl 1 rfl) ?_
                refine t_getr cf_1 hx hb hts hown hK hT h_a (k := 10) (P := fun q => τ q = 7) rfl (fun _ h9 => h9) fl_X9_67 (fun _ h9 => h9) dX9_shareState_65 (fun q_15 eq_15 hq_15 => ?_)
                have w_16 : q_7 = q_15 := Option.some.inj (eq_7.symm.trans eq_15)
                subst w_16
                refine t_geti cf_7 hx hb hts hown hK hT hq_7 (k := 6) rfl fl_X9_137 (fun _ h9 => h9) dX9_shareState_68 (fun z_17 ez_17 rz_17 => ?_)
                have ez_17 : z_17 = G.1 q_7 6 := ez_17
                have rz_17 : 0 ≤ z_17.toInt ∧ z_17.toInt ≤ 6 := rz_17
                refine lv_icmp_ne (tgt := 86) hx hb dX9_shareState_71 (by decide) (fun c_18 => ?_) (fun c_18 => ?_)
                · skip
                  have tc_18 : ¬ z_14.toInt = z_17.toInt := fun h => c_18 ((fa_eq _ _).mpr h)
                  refine lv_bipush (v := (-2)) hx hb dX9_shareState_86 (by decide) ?_
                  exact ret_i hx hb hr hlocks ⟨⟨hS.1, hS.2.1⟩, G, hF, ⟨_, rfl, (Or.inr (Or.inl rfl))⟩, hT⟩ hS.2.2 (Nat.le_of_ble_eq_true rfl) (Nat.le_of_ble_eq_true rfl) dX9_shareState_88
                · skip
                  have tc_18 : z_14.toInt = z_17.toInt := (fa_eq _ _).mp c_18
                  refine lv_aload hx hb dX9_shareState_74 (lv_at hl 0 rfl) ?_
                  refine lv_lconst (v := 0) hx hb dX9_shareState_76 (by decide) ?_
                  refine lv_ldc2 (v := 999) hx hb hown (hts _ kl_X9_385) dX9_shareState_77 ?_
                  refine pu_calli (runV (As := [.long 0, .long 999]) (rest := []) ⟨hx, hb, hml, hown, hts⟩ (t_X6_within l D cy base τ G q_11 hq_11 0 999) sV_X9_319 hK (t_recv cf_9 hK hT hq_11) ⟨Nat.le_trans hZ hS.1, hT⟩ ⟨Nat.le_of_ble_eq_true rfl, Nat.le_of_ble_eq_true rfl⟩ rfl hl.1 rfl (Nat.le_of_ble_eq_true rfl) dX9_shareState_80 ⟨Nat.le_of_ble_eq_true rfl, Nat.le_of_ble_eq_true rfl⟩) (fun r_19 hr_19 => ?_)
                  have hr_19_c := hr_19
                  rcases hr_19_c with hr_19_0 | hr_19_1
                  · skip
                    obtain ⟨er_19, hr_19_0_f0⟩ := hr_19_0
                    have hr_19_0_f0 : ∀ q : Nat, G.2.2.1 q_11 1 = some q → ∀ j : Nat, j < G.2.2.2 q → (0 : Int) ≤ (G.2.1 q j).toInt ∧ (G.2.1 q j).toInt ≤ (999 : Int) := hr_19_0_f0
                    subst er_19
                    refine W.eq (g2 := F0 m 83 ls [.int 1]) rfl ?_
                    refine lv_if_ne (tgt := 89) hx hb dX9_shareState_83 (by decide) (fun _ => ?_) (fun c_20 => absurd c_20 (by decide))
                    refine lv_aload_n hx hb dX9_shareState_89 rfl (lv_at hl 1 rfl) ?_
                    refine t_getr cf_1 hx hb hts hown hK hT h_a (k := 4) (P := fun q => τ q = 5) rfl (fun _ h9 => h9) fl_X9_37 (fun _ h9 => h9) dX9_shareState_90 (fun q_21 eq_21 hq_21 => ?_)
                    refine lv_aload hx hb dX9_shareState_93 (lv_at hl 0 rfl) ?_
                    refine t_getr cf_9 hx hb hts hown hK hT hq_11 (k := 1) (P := fun q => τ q = 40) rfl (fun _ h9 => h9) fl_X9_315 (fun _ h9 => h9) dX9_shareState_95 (fun q_22 eq_22 hq_22 => ?_)
                    have w_23 : q_12 = q_22 := Option.some.inj (eq_12.symm.trans eq_22)
                    subst w_23
                    refine t_callv (runV (As := [.ref q_12]) (rest := []) ⟨hx, hb, hml, hown, hts⟩ (t_X7_take l D cy base τ G q_21 hq_21 q_12 hq_12 (fun j hj => by first | exact hr_19_0_f0 q_12 eq_12 j hj | exact hr_19_0_f0 _ eq_12 j (by have := hF.n hq_12 (by decide); omega))) sV_X9_387 hK (t_recv cf_5 hK hT hq_21) ⟨Nat.le_trans hZ hS.1, hT⟩ ⟨Nat.le_of_ble_eq_true rfl, Nat.le_of_ble_eq_true rfl⟩ rfl hl.1 rfl (Nat.le_of_ble_eq_true rfl) dX9_shareState_98 ⟨Nat.le_of_ble_eq_true rfl, Nat.le_of_ble_eq_true rfl⟩) hS (fun G_24 H locs hF_24 hr_24 hT hS => ?_)
                    have hF := hF.tr hF_24 rfl
                    refine lv_iconst (v := 0) hx hb dX9_shareState_101 (by decide) ?_
                    exact ret_i hx hb hr hlocks ⟨⟨hS.1, hS.2.1⟩, G_24, hF, ⟨_, rfl, (Or.inl ⟨rfl, (by omega), (by omega), (by omega), (by omega), (by omega), (by omega)⟩)⟩, hT⟩ hS.2.2 (Nat.le_of_ble_eq_true rfl) (Nat.le_of_ble_eq_true rfl) dX9_shareState_102
                  · skip
                    have er_19 := hr_19_1
                    subst er_19
                    refine W.eq (g2 := F0 m 83 ls [.int 0]) rfl ?_
                    refine lv_if_ne (tgt := 89) hx hb dX9_shareState_83 (by decide) (fun c_25 => absurd rfl c_25) (fun _ => ?_)
                    refine lv_bipush (v := (-2)) hx hb dX9_shareState_86 (by decide) ?_
                    exact ret_i hx hb hr hlocks ⟨⟨hS.1, hS.2.1⟩, G, hF, ⟨_, rfl, (Or.inr (Or.inl rfl))⟩, hT⟩ hS.2.2 (Nat.le_of_ble_eq_true rfl) (Nat.le_of_ble_eq_true rfl) dX9_shareState_88
            · skip
              have er_8 := hr_8_1
              subst er_8
              refine W.eq (g2 := F0 m 36 ls [.int 0]) rfl ?_
              refine lv_if_ne (tgt := 42) hx hb dX9_shareState_36 (by decide) (fun c_26 => absurd rfl c_26) (fun _ => ?_)
              refine lv_bipush (v := (-2)) hx hb dX9_shareState_39 (by decide) ?_
              exact ret_i hx hb hr hlocks ⟨⟨hS.1, hS.2.1⟩, G, hF, ⟨_, rfl, (Or.inr (Or.inl rfl))⟩, hT⟩ hS.2.2 (Nat.le_of_ble_eq_true rfl) (Nat.le_of_ble_eq_true rfl) dX9_shareState_41
  · skip
    have er_1 := hr_1_1
    subst er_1
    refine W.eq (g2 := F0 m 4 ls [.int 0]) rfl ?_
    refine lv_if_eq (tgt := 39) hx hb dX9_shareState_4 (by decide) (fun _ => ?_) (fun c_27 => absurd (by decide) c_27)
    refine lv_bipush (v := (-2)) hx hb dX9_shareState_39 (by decide) ?_
    exact ret_i hx hb hr hlocks ⟨⟨hS.1, hS.2.1⟩, G, hF, ⟨_, rfl, (Or.inr (Or.inl rfl))⟩, hT⟩ hS.2.2 (Nat.le_of_ble_eq_true rfl) (Nat.le_of_ble_eq_true rfl) dX9_shareState_41
set_option maxHeartbeats 4000000 in
set_option maxRecDepth 100000 in
theorem t_X9_given (l : Launch) (D : va_G) (cy : Nat → ClassId) (base : Nat) (τ : Nat → Nat) (G : Gh) (a : Nat) (h_a : τ a = 1) (v0 : Int32) (v1 : Int32) (v2 : Int32) (v3 : Int32) : MM l yX9_given cX9_given 6 (some .int) 3 0 0 D cy [.ref a, .int v0, .int v1, .int v2, .int v3] (PT D cy base τ G) (QT D cy base τ G [39] (fun v g => ∃ r : Int32, v = some (.int r) ∧ (True))) (RA base) := by
  refine MM.of (by decide) (Nat.le_of_ble_eq_true rfl) ?_
  intro p e s m below meth c C hPT ls hl
  obtain ⟨hx, hb, hr, hml, hown, hts, hlocks, hK, hnm⟩ := C
  obtain ⟨hZ, hT⟩ := hPT
  have hS : va_S (RA base) s.heap s.heap [] := va_S.rf
  have hF : Fr τ [39] G G := Fr.rf
  have hl : lv_has ls 6 [(0, .ref a), (1, .int v0), (2, .int v1), (3, .int v2), (4, .int v3)] := hl
  refine lv_aload_n hx hb dX9_given_0 rfl (lv_at hl 0 rfl) ?_
  refine lv_iload_n hx hb dX9_given_1 rfl (lv_at hl 1 rfl) ?_
  refine lv_iload_n hx hb dX9_given_2 rfl (lv_at hl 2 rfl) ?_
  refine lv_iload_n hx hb dX9_given_3 rfl (lv_at hl 3 rfl) ?_
  refine lv_iload hx hb dX9_given_4 (lv_at hl 4 rfl) ?_
  refine t_calli (runV (As := [.int v0, .int v1, .int v2, .int v3]) (rest := []) ⟨hx, hb, hml, hown, hts⟩ (t_X9_shareState l D cy base τ G a h_a v0 v1 v2 v3) sV_X9_273 hK (t_recv cf_1 hK hT h_a) ⟨Nat.le_trans hZ hS.1, hT⟩ ⟨Nat.le_of_ble_eq_true rfl, Nat.le_of_ble_eq_true rfl⟩ rfl hl.1 rfl (Nat.le_of_ble_eq_true rfl) dX9_given_6 ⟨Nat.le_of_ble_eq_true rfl, Nat.le_of_ble_eq_true rfl⟩) hS (fun r_1 G_1 H locs hF_1 hr_1 hT hS => ?_)
  have hF := hF.tr hF_1 rfl
  have hr_1_c := hr_1
  rcases hr_1_c with hr_1_0 | hr_1_1 | hr_1_2
  · skip
    obtain ⟨er_1, hr_1_0_f0, hr_1_0_f1, hr_1_0_f2, hr_1_0_f3, hr_1_0_f4, hr_1_0_f5⟩ := hr_1_0
    have hr_1_0_f0 : 0 ≤ v1.toInt := hr_1_0_f0
    have hr_1_0_f1 : v1.toInt ≤ 1 := hr_1_0_f1
    have hr_1_0_f2 : 0 ≤ v2.toInt := hr_1_0_f2
    have hr_1_0_f3 : v2.toInt ≤ 99999 := hr_1_0_f3
    have hr_1_0_f4 : 0 ≤ v3.toInt := hr_1_0_f4
    have hr_1_0_f5 : v3.toInt ≤ 5 := hr_1_0_f5
    subst er_1
    refine W.eq (g2 := F0 m 9 ls [.int 0]) rfl ?_
    refine lv_istore (lv' := [(5, .int 0), (0, .ref a), (1, .int v0), (2, .int v1), (3, .int v2), (4, .int v3)]) hx hb dX9_given_9 hl (by decide) rfl (fun ls hl => ?_)
    refine lv_iload hx hb dX9_given_11 (lv_at hl 0 rfl) ?_
    refine lv_if_eq (tgt := 19) hx hb dX9_given_13 (by decide) (fun _ => ?_) (fun c_2 => absurd (by decide) c_2)
    refine lv_aload_n hx hb dX9_given_19 rfl (lv_at hl 1 rfl) ?_
    refine t_getr cf_1 hx hb hts hown hK hT h_a (k := 4) (P := fun q => τ q = 5) rfl (fun _ h9 => h9) fl_X9_37 (fun _ h9 => h9) dX9_given_20 (fun q_3 eq_3 hq_3 => ?_)
    have eq_3 := (hF.r h_a (by decide) rfl _).symm.trans eq_3
    refine lv_iload_n hx hb dX9_given_23 rfl (lv_at hl 3 rfl) ?_
    refine lv_iload_n hx hb dX9_given_24 rfl (lv_at hl 4 rfl) ?_
    refine lv_iload hx hb dX9_given_25 (lv_at hl 5 rfl) ?_
    refine pu_calli (runV (As := [.int v1, .int v2, .int v3]) (rest := []) ⟨hx, hb, hml, hown, hts⟩ (t_X7_part l D cy base τ G_1 q_3 hq_3 v1 v2 ⟨by omega, by omega⟩ v3) sV_X9_276 hK (t_recv cf_5 hK hT hq_3) ⟨Nat.le_trans hZ hS.1, hT⟩ ⟨Nat.le_of_ble_eq_true rfl, Nat.le_of_ble_eq_true rfl⟩ rfl hl.1 rfl (Nat.le_of_ble_eq_true rfl) dX9_given_27 ⟨Nat.le_of_ble_eq_true rfl, Nat.le_of_ble_eq_true rfl⟩) (fun r_4 hr_4 => ?_)
    obtain ⟨hr_4_lo, hr_4_hi⟩ := hr_4
    have hr_4_lo : 0 ≤ r_4.toInt := hr_4_lo
    have hr_4_hi : r_4.toInt ≤ 99899001 := hr_4_hi
    exact ret_i hx hb hr hlocks ⟨⟨hS.1, hS.2.1⟩, G_1, hF, ⟨_, rfl, trivial⟩, hT⟩ hS.2.2 (Nat.le_of_ble_eq_true rfl) (Nat.le_of_ble_eq_true rfl) dX9_given_30
  · skip
    have er_1 := hr_1_1
    subst er_1
    refine W.eq (g2 := F0 m 9 ls [.int (-2)]) rfl ?_
    refine lv_istore (lv' := [(5, .int (-2)), (0, .ref a), (1, .int v0), (2, .int v1), (3, .int v2), (4, .int v3)]) hx hb dX9_given_9 hl (by decide) rfl (fun ls hl => ?_)
    refine lv_iload hx hb dX9_given_11 (lv_at hl 0 rfl) ?_
    refine lv_if_eq (tgt := 19) hx hb dX9_given_13 (by decide) (fun c_5 => absurd c_5 (by decide)) (fun _ => ?_)
    refine lv_iload hx hb dX9_given_16 (lv_at hl 0 rfl) ?_
    exact ret_i hx hb hr hlocks ⟨⟨hS.1, hS.2.1⟩, G_1, hF, ⟨_, rfl, trivial⟩, hT⟩ hS.2.2 (Nat.le_of_ble_eq_true rfl) (Nat.le_of_ble_eq_true rfl) dX9_given_18
  · skip
    have er_1 := hr_1_2
    subst er_1
    refine W.eq (g2 := F0 m 9 ls [.int (-6)]) rfl ?_
    refine lv_istore (lv' := [(5, .int (-6)), (0, .ref a), (1, .int v0), (2, .int v1), (3, .int v2), (4, .int v3)]) hx hb dX9_given_9 hl (by decide) rfl (fun ls hl => ?_)
    refine lv_iload hx hb dX9_given_11 (lv_at hl 0 rfl) ?_
    refine lv_if_eq (tgt := 19) hx hb dX9_given_13 (by decide) (fun c_6 => absurd c_6 (by decide)) (fun _ => ?_)
    refine lv_iload hx hb dX9_given_16 (lv_at hl 0 rfl) ?_
    exact ret_i hx hb hr hlocks ⟨⟨hS.1, hS.2.1⟩, G_1, hF, ⟨_, rfl, trivial⟩, hT⟩ hS.2.2 (Nat.le_of_ble_eq_true rfl) (Nat.le_of_ble_eq_true rfl) dX9_given_18
set_option maxHeartbeats 4000000 in
set_option maxRecDepth 100000 in
theorem t_X9_lossIfAsked (l : Launch) (D : va_G) (cy : Nat → ClassId) (base : Nat) (τ : Nat → Nat) (G : Gh) (a : Nat) (h_a : τ a = 1) (v0 : Int32) (v1 : Int32) (r_v1 : 0 ≤ v1.toInt ∧ v1.toInt ≤ 99999) (v2 : Int32) (v3 : Int32) (v4 : Int32) (r_v4 : 0 ≤ v4.toInt ∧ v4.toInt ≤ 999) : MM l yX9_lossIfAsked cX9_lossIfAsked 6 (some .long) 4 0 0 D cy [.ref a, .int v0, .int v1, .int v2, .int v3, .int v4] (PT D cy base τ G) (QT D cy base τ G [39] (fun v g => ∃ r : Int64, v = some (.long r) ∧ (True))) (RA base) := by
  refine MM.of (by decide) (Nat.le_of_ble_eq_true rfl) ?_
  intro p e s m below meth c C hPT ls hl
  obtain ⟨hx, hb, hr, hml, hown, hts, hlocks, hK, hnm⟩ := C
  obtain ⟨hZ, hT⟩ := hPT
  have hS : va_S (RA base) s.heap s.heap [] := va_S.rf
  have hF : Fr τ [39] G G := Fr.rf
  have hl : lv_has ls 6 [(0, .ref a), (1, .int v0), (2, .int v1), (3, .int v2), (4, .int v3), (5, .int v4)] := hl
  refine lv_aload_n hx hb dX9_lossIfAsked_0 rfl (lv_at hl 0 rfl) ?_
  refine t_getr cf_1 hx hb hts hown hK hT h_a (k := 2) (P := fun q => τ q = 3) rfl (fun _ h9 => h9) fl_X9_23 (fun _ h9 => h9) dX9_lossIfAsked_1 (fun q_1 eq_1 hq_1 => ?_)
  refine lv_aload_n hx hb dX9_lossIfAsked_4 rfl (lv_at hl 0 rfl) ?_
  refine t_getr cf_1 hx hb hts hown hK hT h_a (k := 10) (P := fun q => τ q = 7) rfl (fun _ h9 => h9) fl_X9_67 (fun _ h9 => h9) dX9_lossIfAsked_5 (fun q_2 eq_2 hq_2 => ?_)
  refine lv_iload hx hb dX9_lossIfAsked_8 (lv_at hl 4 rfl) ?_
  refine lv_aload_n hx hb dX9_lossIfAsked_10 rfl (lv_at hl 0 rfl) ?_
  refine t_getr cf_1 hx hb hts hown hK hT h_a (k := 4) (P := fun q => τ q = 5) rfl (fun _ h9 => h9) fl_X9_37 (fun _ h9 => h9) dX9_lossIfAsked_11 (fun q_3 eq_3 hq_3 => ?_)
  refine lv_iload_n hx hb dX9_lossIfAsked_14 rfl (lv_at hl 1 rfl) ?_
  refine lv_iload_n hx hb dX9_lossIfAsked_15 rfl (lv_at hl 2 rfl) ?_
  refine lv_iload_n hx hb dX9_lossIfAsked_16 rfl (lv_at hl 3 rfl) ?_
  refine lv_iload hx hb dX9_lossIfAsked_17 (lv_at hl 5 rfl) ?_
  refine t_calli (runV (As := [.int v0, .int v1, .int v2, .int v4]) (rest := [.int v3, .ref q_2, .ref q_1]) ⟨hx, hb, hml, hown, hts⟩ (t_X7_partIfAsked l D cy base τ G q_3 hq_3 v0 v1 ⟨by omega, by omega⟩ v2 v4 ⟨by omega, by omega⟩) sV_X9_391 hK (t_recv cf_5 hK hT hq_3) ⟨Nat.le_trans hZ hS.1, hT⟩ ⟨Nat.le_of_ble_eq_true rfl, Nat.le_of_ble_eq_true rfl⟩ rfl hl.1 rfl (Nat.le_of_ble_eq_true rfl) dX9_lossIfAsked_19 ⟨Nat.le_of_ble_eq_true rfl, Nat.le_of_ble_eq_true rfl⟩) hS (fun r_4 G_4 H locs hF_4 hr_4 hT hS => ?_)
  have hF := hF.tr hF_4 rfl
  obtain ⟨hr_4_lo, hr_4_hi⟩ := hr_4
  have hr_4_lo : 0 ≤ r_4.toInt := hr_4_lo
  have hr_4_hi : r_4.toInt ≤ 99899001 := hr_4_hi
  refine pu_calll (runV (As := [.ref q_2, .int v3, .int r_4]) (rest := []) ⟨hx, hb, hml, hown, hts⟩ (t_X8_lossWhole l D cy base τ G_4 q_1 hq_1 q_2 hq_2 v3 r_4 (by omega)) sV_X9_282 hK (t_recv cf_3 hK hT hq_1) ⟨Nat.le_trans hZ hS.1, hT⟩ ⟨Nat.le_of_ble_eq_true rfl, Nat.le_of_ble_eq_true rfl⟩ rfl hl.1 rfl (Nat.le_of_ble_eq_true rfl) dX9_lossIfAsked_22 ⟨Nat.le_of_ble_eq_true rfl, Nat.le_of_ble_eq_true rfl⟩) (fun r_5 hr_5 => ?_)
  exact ret_l hx hb hr hlocks ⟨⟨hS.1, hS.2.1⟩, G_4, hF, ⟨_, rfl, trivial⟩, hT⟩ hS.2.2 (Nat.le_of_ble_eq_true rfl) (Nat.le_of_ble_eq_true rfl) dX9_lossIfAsked_25
set_option maxHeartbeats 4000000 in
set_option maxRecDepth 100000 in
theorem t_X9_bestAsked (l : Launch) (D : va_G) (cy : Nat → ClassId) (base : Nat) (τ : Nat → Nat) (G : Gh) (a : Nat) (h_a : τ a = 1) (v0 : Int32) (v1 : Int32) (r_v1 : 0 ≤ v1.toInt ∧ v1.toInt ≤ 99999) (v2 : Int32) (v3 : Int32) : MM l yX9_bestAsked cX9_bestAsked 11 (some .int) 5 0 0 D cy [.ref a, .int v0, .int v1, .int v2, .int v3] (PT D cy base τ G) (QT D cy base τ G [39] (fun v g => ∃ r : Int32, v = some (.int r) ∧ (True))) (RA base) := by
  refine MM.of (by decide) (Nat.le_of_ble_eq_true rfl) ?_
  intro p e s m below meth c C hPT ls hl
  obtain ⟨hx, hb, hr, hml, hown, hts, hlocks, hK, hnm⟩ := C
  obtain ⟨hZ, hT⟩ := hPT
  have hS : va_S (RA base) s.heap s.heap [] := va_S.rf
  have hF : Fr τ [39] G G := Fr.rf
  have hl : lv_has ls 11 [(0, .ref a), (1, .int v0), (2, .int v1), (3, .int v2), (4, .int v3)] := hl
  refine lv_aload_n hx hb dX9_bestAsked_0 rfl (lv_at hl 0 rfl) ?_
  refine lv_iload_n hx hb dX9_bestAsked_1 rfl (lv_at hl 1 rfl) ?_
  refine lv_iload_n hx hb dX9_bestAsked_2 rfl (lv_at hl 2 rfl) ?_
  refine lv_iload_n hx hb dX9_bestAsked_3 rfl (lv_at hl 3 rfl) ?_
  refine lv_iload hx hb dX9_bestAsked_4 (lv_at hl 4 rfl) ?_
  refine lv_sipush (v := 999) hx hb dX9_bestAsked_6 (by decide) ?_
  refine t_calll (runV (As := [.int v0, .int v1, .int v2, .int v3, .int 999]) (rest := []) ⟨hx, hb, hml, hown, hts⟩ (t_X9_lossIfAsked l D cy base τ G a h_a v0 v1 ⟨by omega, by omega⟩ v2 v3 999 (by decide)) sV_X9_285 hK (t_recv cf_1 hK hT h_a) ⟨Nat.le_trans hZ hS.1, hT⟩ ⟨Nat.le_of_ble_eq_true rfl, Nat.le_of_ble_eq_true rfl⟩ rfl hl.1 rfl (Nat.le_of_ble_eq_true rfl) dX9_bestAsked_9 ⟨Nat.le_of_ble_eq_true rfl, Nat.le_of_ble_eq_true rfl⟩) hS (fun r_1 G_1 H locs hF_1 hr_1 hT hS => ?_)
  have hF := hF.tr hF_1 rfl
  refine lv_lstore (lv' := [(5, .long r_1), (0, .ref a), (1, .int v0), (2, .int v1), (3, .int v2), (4, .int v3)]) hx hb dX9_bestAsked_12 hl (by decide) rfl (fun ls hl => ?_)
  refine lv_iconst (v := 0) hx hb dX9_bestAsked_14 (by decide) ?_
  refine lv_istore (lv' := [(7, .int 0), (5, .long r_1), (0, .ref a), (1, .int v0), (2, .int v1), (3, .int v2), (4, .int v3)]) hx hb dX9_bestAsked_15 hl (by decide) rfl (fun ls hl => ?_)
  refine lv_sipush (v := 999) hx hb dX9_bestAsked_17 (by decide) ?_
  refine lv_istore (lv' := [(8, .int 999), (7, .int 0), (5, .long r_1), (0, .ref a), (1, .int v0), (2, .int v1), (3, .int v2), (4, .int v3)]) hx hb dX9_bestAsked_20 hl (by decide) rfl (fun ls hl => ?_)
  refine lv_iconst (v := 0) hx hb dX9_bestAsked_22 (by decide) ?_
  refine lv_istore (lv' := [(9, .int 0), (8, .int 999), (7, .int 0), (5, .long r_1), (0, .ref a), (1, .int v0), (2, .int v1), (3, .int v2), (4, .int v3)]) hx hb dX9_bestAsked_23 hl (by decide) rfl (fun ls hl => ?_)
  refine W.loop (σ := Int32 × Int32 × Int32 × Gh) (fun w2 H locs ls => 0 ≤ w2.1.toInt ∧ w2.1.toInt ≤ 999 ∧ 0 ≤ w2.2.1.toInt ∧ w2.2.1.toInt ≤ 999 ∧ 0 ≤ w2.2.2.1.toInt ∧ w2.2.2.1.toInt ≤ 10 ∧ Fr τ [39] G w2.2.2.2 ∧ TY D cy base τ w2.2.2.2 H ∧ va_S (RA base) s.heap H locs ∧ lv_has ls 11 [(7, .int w2.1), (8, .int w2.2.1), (9, .int w2.2.2.1), (5, .long r_1), (0, .ref a), (1, .int v0), (2, .int v1), (3, .int v2), (4, .int v3)]) (fun w2 => (10 - w2.2.2.1.toInt).toNat) ?_ ((0 : Int32), (999 : Int32), (0 : Int32), G_1) _ _ _ ⟨(by show 0 ≤ (0 : Int32).toInt; decide), (by show (0 : Int32).toInt ≤ 999; decide), (by show 0 ≤ (999 : Int32).toInt; decide), (by show (999 : Int32).toInt ≤ 999; decide), (by show 0 ≤ (0 : Int32).toInt; decide), (by show (0 : Int32).toInt ≤ 10; decide), hF, hT, hS, lv_sub hl [2, 1, 0, 3, 4, 5, 6, 7, 8] rfl⟩
  intro w2 H locs ls hI ih2
  obtain ⟨x2_7, x2_8, x2_9, G_2⟩ := w2
  obtain ⟨i2_0, i2_1, i2_2, i2_3, i2_4, i2_5, hF, hT, hS, hl⟩ := hI
  have i2_0 : 0 ≤ x2_7.toInt := i2_0
  have i2_1 : x2_7.toInt ≤ 999 := i2_1
  have i2_2 : 0 ≤ x2_8.toInt := i2_2
  have i2_3 : x2_8.toInt ≤ 999 := i2_3
  have i2_4 : 0 ≤ x2_9.toInt := i2_4
  have i2_5 : x2_9.toInt ≤ 10 := i2_5
  have hF : Fr τ [39] G G_2 := hF
  have hT : TY D cy base τ G_2 H := hT
  have hS : va_S (RA base) s.heap H locs := hS
  have hl : lv_has ls 11 [(7, .int x2_7), (8, .int x2_8), (9, .int x2_9), (5, .long r_1), (0, .ref a), (1, .int v0), (2, .int v1), (3, .int v2), (4, .int v3)] := hl
  refine lv_iload hx hb dX9_bestAsked_25 (lv_at hl 2 rfl) ?_
  refine lv_bipush (v := 10) hx hb dX9_bestAsked_27 (by decide) ?_
  refine lv_icmp_ge (tgt := 84) hx hb dX9_bestAsked_29 (by decide) (fun c_3 => ?_) (fun c_3 => ?_)
  · skip
    have tc_3 : 10 ≤ x2_9.toInt := (fa_le _ _).mp c_3
    refine lv_iload hx hb dX9_bestAsked_84 (lv_at hl 0 rfl) ?_
    exact ret_i hx hb hr hlocks ⟨⟨hS.1, hS.2.1⟩, G_2, hF, ⟨_, rfl, trivial⟩, hT⟩ hS.2.2 (Nat.le_of_ble_eq_true rfl) (Nat.le_of_ble_eq_true rfl) dX9_bestAsked_86
  · skip
    have tc_3 : ¬ 10 ≤ x2_9.toInt := fun h => c_3 ((fa_le _ _).mpr h)
    refine lv_iload hx hb dX9_bestAsked_32 (lv_at hl 0 rfl) ?_
    refine lv_iload hx hb dX9_bestAsked_34 (lv_at hl 1 rfl) ?_
    refine lv_icmp_ge (tgt := 84) hx hb dX9_bestAsked_36 (by decide) (fun c_4 => ?_) (fun c_4 => ?_)
    · skip
      have tc_4 : x2_8.toInt ≤ x2_7.toInt := (fa_le _ _).mp c_4
      refine lv_iload hx hb dX9_bestAsked_84 (lv_at hl 0 rfl) ?_
      exact ret_i hx hb hr hlocks ⟨⟨hS.1, hS.2.1⟩, G_2, hF, ⟨_, rfl, trivial⟩, hT⟩ hS.2.2 (Nat.le_of_ble_eq_true rfl) (Nat.le_of_ble_eq_true rfl) dX9_bestAsked_86
    · skip
      have tc_4 : ¬ x2_8.toInt ≤ x2_7.toInt := fun h => c_4 ((fa_le _ _).mpr h)
      refine lv_iload hx hb dX9_bestAsked_39 (lv_at hl 0 rfl) ?_
      refine lv_iload hx hb dX9_bestAsked_41 (lv_at hl 1 rfl) ?_
      refine lv_iadd hx hb dX9_bestAsked_43 ?_
      refine lv_topi (fun z_5 ez_5 => ?_)
      have tz_5 : z_5.toInt = x2_7.toInt + x2_8.toInt := add_t ez_5 (show -2147483648 ≤ x2_7.toInt + x2_8.toInt by omega) (show x2_7.toInt + x2_8.toInt < 2147483648 by omega)
      refine lv_iconst (v := 2) hx hb dX9_bestAsked_44 (by decide) ?_
      refine lv_idiv hx hb dX9_bestAsked_45 (by decide) ?_
      refine lv_topi (fun z_6 ez_6 => ?_)
      have tz_6 : z_6.toInt = z_5.toInt / 2 := div_t ez_6 (by omega) (by decide)
      refine lv_istore (lv' := [(10, .int z_6), (7, .int x2_7), (8, .int x2_8), (9, .int x2_9), (5, .long r_1), (0, .ref a), (1, .int v0), (2, .int v1), (3, .int v2), (4, .int v3)]) hx hb dX9_bestAsked_46 hl (by decide) rfl (fun ls hl => ?_)
      refine lv_aload_n hx hb dX9_bestAsked_48 rfl (lv_at hl 5 rfl) ?_
      refine lv_iload_n hx hb dX9_bestAsked_49 rfl (lv_at hl 6 rfl) ?_
      refine lv_iload_n hx hb dX9_bestAsked_50 rfl (lv_at hl 7 rfl) ?_
      refine lv_iload_n hx hb dX9_bestAsked_51 rfl (lv_at hl 8 rfl) ?_
      refine lv_iload hx hb dX9_bestAsked_52 (lv_at hl 9 rfl) ?_
      refine lv_iload hx hb dX9_bestAsked_54 (lv_at hl 0 rfl) ?_
      refine t_calll (runV (As := [.int v0, .int v1, .int v2, .int v3, .int z_6]) (rest := []) ⟨hx, hb, hml, hown, hts⟩ (t_X9_lossIfAsked l D cy base τ G_2 a h_a v0 v1 ⟨by omega, by omega⟩ v2 v3 z_6 ⟨by omega, by omega⟩) sV_X9_285 hK (t_recv cf_1 hK hT h_a) ⟨Nat.le_trans hZ hS.1, hT⟩ ⟨Nat.le_of_ble_eq_true rfl, Nat.le_of_ble_eq_true rfl⟩ rfl hl.1 rfl (Nat.le_of_ble_eq_true rfl) dX9_bestAsked_56 ⟨Nat.le_of_ble_eq_true rfl, Nat.le_of_ble_eq_true rfl⟩) hS (fun r_7 G_7 H locs hF_7 hr_7 hT hS => ?_)
      have hF := hF.tr hF_7 rfl
      refine lv_lload hx hb dX9_bestAsked_59 (lv_at hl 4 rfl) ?_
      refine W.lcmp hx hb dX9_bestAsked_61 ?_
      refine lv_topi (fun z_8 ez_8 => ?_)
      have tz_8 : (z_8.toInt < 0 ↔ r_7.toInt < r_1.toInt) ∧ (0 < z_8.toInt ↔ r_1.toInt < r_7.toInt) ∧ -1 ≤ z_8.toInt ∧ z_8.toInt ≤ 1 := cmp_t ez_8
      refine lv_if_ne (tgt := 72) hx hb dX9_bestAsked_62 (by decide) (fun c_9 => ?_) (fun c_9 => ?_)
      · skip
        have tc_9 : ¬ z_8.toInt = 0 := fun h => c_9 ((fa_eq _ _).mpr h)
        refine lv_iload hx hb dX9_bestAsked_72 (lv_at hl 0 rfl) ?_
        refine lv_iconst (v := 1) hx hb dX9_bestAsked_74 (by decide) ?_
        refine lv_iadd hx hb dX9_bestAsked_75 ?_
        refine lv_topi (fun z_10 ez_10 => ?_)
        have tz_10 : z_10.toInt = z_6.toInt + 1 := add_t ez_10 (show -2147483648 ≤ z_6.toInt + 1 by omega) (show z_6.toInt + 1 < 2147483648 by omega)
        refine lv_istore (lv' := [(7, .int z_10), (10, .int z_6), (8, .int x2_8), (9, .int x2_9), (5, .long r_1), (0, .ref a), (1, .int v0), (2, .int v1), (3, .int v2), (4, .int v3)]) hx hb dX9_bestAsked_76 hl (by decide) rfl (fun ls hl => ?_)
        obtain ⟨z_11, ez_11⟩ : ∃ y : Int32, y = x2_9 + 1 := ⟨_, rfl⟩
        have tz_11 : z_11.toInt = x2_9.toInt + 1 := add_t ez_11 (show -2147483648 ≤ x2_9.toInt + 1 by omega) (show x2_9.toInt + 1 < 2147483648 by omega)
        refine lv_iinc (v := z_11) (lv' := [(9, .int z_11), (7, .int z_10), (10, .int z_6), (8, .int x2_8), (5, .long r_1), (0, .ref a), (1, .int v0), (2, .int v1), (3, .int v2), (4, .int v3)]) hx hb dX9_bestAsked_78 hl (k := 3) rfl (by rw [ez_11]; rfl) (by decide) rfl (fun ls hl => ?_)
        refine lv_goto (tgt := 25) hx hb dX9_bestAsked_81 (by decide) ?_
        exact ih2 (z_10, x2_8, z_11, G_7) _ _ _ (by show (10 - z_11.toInt).toNat < (10 - x2_9.toInt).toNat; omega) ⟨(by show 0 ≤ z_10.toInt; omega), (by show z_10.toInt ≤ 999; omega), (by show 0 ≤ x2_8.toInt; omega), (by show x2_8.toInt ≤ 999; omega), (by show 0 ≤ z_11.toInt; omega), (by show z_11.toInt ≤ 10; omega), hF, hT, hS, lv_sub hl [1, 3, 0, 4, 5, 6, 7, 8, 9] rfl⟩
      · skip
        have tc_9 : z_8.toInt = 0 := (fa_eq _ _).mp c_9
        refine lv_iload hx hb dX9_bestAsked_65 (lv_at hl 0 rfl) ?_
        refine lv_istore (lv' := [(8, .int z_6), (10, .int z_6), (7, .int x2_7), (9, .int x2_9), (5, .long r_1), (0, .ref a), (1, .int v0), (2, .int v1), (3, .int v2), (4, .int v3)]) hx hb dX9_bestAsked_67 hl (by decide) rfl (fun ls hl => ?_)
        refine lv_goto (tgt := 78) hx hb dX9_bestAsked_69 (by decide) ?_
        obtain ⟨z_12, ez_12⟩ : ∃ y : Int32, y = x2_9 + 1 := ⟨_, rfl⟩
        have tz_12 : z_12.toInt = x2_9.toInt + 1 := add_t ez_12 (show -2147483648 ≤ x2_9.toInt + 1 by omega) (show x2_9.toInt + 1 < 2147483648 by omega)
        refine lv_iinc (v := z_12) (lv' := [(9, .int z_12), (8, .int z_6), (10, .int z_6), (7, .int x2_7), (5, .long r_1), (0, .ref a), (1, .int v0), (2, .int v1), (3, .int v2), (4, .int v3)]) hx hb dX9_bestAsked_78 hl (k := 3) rfl (by rw [ez_12]; rfl) (by decide) rfl (fun ls hl => ?_)
        refine lv_goto (tgt := 25) hx hb dX9_bestAsked_81 (by decide) ?_
        exact ih2 (x2_7, z_6, z_12, G_7) _ _ _ (by show (10 - z_12.toInt).toNat < (10 - x2_9.toInt).toNat; omega) ⟨(by show 0 ≤ x2_7.toInt; omega), (by show x2_7.toInt ≤ 999; omega), (by show 0 ≤ z_6.toInt; omega), (by show z_6.toInt ≤ 999; omega), (by show 0 ≤ z_12.toInt; omega), (by show z_12.toInt ≤ 10; omega), hF, hT, hS, lv_sub hl [3, 1, 0, 4, 5, 6, 7, 8, 9] rfl⟩
set_option maxHeartbeats 4000000 in
set_option maxRecDepth 100000 in
theorem t_X9_asks (l : Launch) (D : va_G) (cy : Nat → ClassId) (base : Nat) (τ : Nat → Nat) (G : Gh) (a : Nat) (h_a : τ a = 1) (v0 : Int32) (v1 : Int32) (v2 : Int32) (v3 : Int32) (v4 : Int32) : MM l yX9_asks cX9_asks 7 (some .int) 6 0 0 D cy [.ref a, .int v0, .int v1, .int v2, .int v3, .int v4] (PT D cy base τ G) (QT D cy base τ G [3, 32, 36, 39] (fun v g => ∃ r : Int32, v = some (.int r) ∧ (True))) (RA base) := by
  refine MM.of (by decide) (Nat.le_of_ble_eq_true rfl) ?_
  intro p e s m below meth c C hPT ls hl
  obtain ⟨hx, hb, hr, hml, hown, hts, hlocks, hK, hnm⟩ := C
  obtain ⟨hZ, hT⟩ := hPT
  have hS : va_S (RA base) s.heap s.heap [] := va_S.rf
  have hF : Fr τ [3, 32, 36, 39] G G := Fr.rf
  have hl : lv_has ls 7 [(0, .ref a), (1, .int v0), (2, .int v1), (3, .int v2), (4, .int v3), (5, .int v4)] := hl
  refine lv_aload_n hx hb dX9_asks_0 rfl (lv_at hl 0 rfl) ?_
  refine t_getr cf_1 hx hb hts hown hK hT h_a (k := 10) (P := fun q => τ q = 7) rfl (fun _ h9 => h9) fl_X9_67 (fun _ h9 => h9) dX9_asks_1 (fun q_1 eq_1 hq_1 => ?_)
  refine lv_iload hx hb dX9_asks_4 (lv_at hl 5 rfl) ?_
  refine pu_calli (runV (As := [.int v4]) (rest := []) ⟨hx, hb, hml, hown, hts⟩ (t_X2_hasThing l D cy base τ G q_1 hq_1 v4) sV_X9_242 hK (t_recv cf_7 hK hT hq_1) ⟨Nat.le_trans hZ hS.1, hT⟩ ⟨Nat.le_of_ble_eq_true rfl, Nat.le_of_ble_eq_true rfl⟩ rfl hl.1 rfl (Nat.le_of_ble_eq_true rfl) dX9_asks_6 ⟨Nat.le_of_ble_eq_true rfl, Nat.le_of_ble_eq_true rfl⟩) (fun r_2 hr_2 => ?_)
  have hr_2_c := hr_2
  rcases hr_2_c with hr_2_0 | hr_2_1
  · skip
    obtain ⟨er_2, hr_2_0_f0, hr_2_0_f1⟩ := hr_2_0
    have hr_2_0_f0 : 0 ≤ v4.toInt := hr_2_0_f0
    have hr_2_0_f1 : v4.toInt ≤ 2 := hr_2_0_f1
    subst er_2
    refine W.eq (g2 := F0 m 9 ls [.int 1]) rfl ?_
    refine lv_if_ne (tgt := 15) hx hb dX9_asks_9 (by decide) (fun _ => ?_) (fun c_3 => absurd c_3 (by decide))
    refine lv_aload_n hx hb dX9_asks_15 rfl (lv_at hl 0 rfl) ?_
    refine lv_iload_n hx hb dX9_asks_16 rfl (lv_at hl 1 rfl) ?_
    refine lv_iload_n hx hb dX9_asks_17 rfl (lv_at hl 2 rfl) ?_
    refine lv_iload_n hx hb dX9_asks_18 rfl (lv_at hl 3 rfl) ?_
    refine lv_iload hx hb dX9_asks_19 (lv_at hl 4 rfl) ?_
    refine t_calli (runV (As := [.int v0, .int v1, .int v2, .int v3]) (rest := []) ⟨hx, hb, hml, hown, hts⟩ (t_X9_shareState l D cy base τ G a h_a v0 v1 v2 v3) sV_X9_273 hK (t_recv cf_1 hK hT h_a) ⟨Nat.le_trans hZ hS.1, hT⟩ ⟨Nat.le_of_ble_eq_true rfl, Nat.le_of_ble_eq_true rfl⟩ rfl hl.1 rfl (Nat.le_of_ble_eq_true rfl) dX9_asks_21 ⟨Nat.le_of_ble_eq_true rfl, Nat.le_of_ble_eq_true rfl⟩) hS (fun r_4 G_4 H locs hF_4 hr_4 hT hS => ?_)
    have hF := hF.tr hF_4 rfl
    have hr_4_c := hr_4
    rcases hr_4_c with hr_4_0 | hr_4_1 | hr_4_2
    · skip
      obtain ⟨er_4, hr_4_0_f0, hr_4_0_f1, hr_4_0_f2, hr_4_0_f3, hr_4_0_f4, hr_4_0_f5⟩ := hr_4_0
      have hr_4_0_f0 : 0 ≤ v1.toInt := hr_4_0_f0
      have hr_4_0_f1 : v1.toInt ≤ 1 := hr_4_0_f1
      have hr_4_0_f2 : 0 ≤ v2.toInt := hr_4_0_f2
      have hr_4_0_f3 : v2.toInt ≤ 99999 := hr_4_0_f3
      have hr_4_0_f4 : 0 ≤ v3.toInt := hr_4_0_f4
      have hr_4_0_f5 : v3.toInt ≤ 5 := hr_4_0_f5
      subst er_4
      refine W.eq (g2 := F0 m 24 ls [.int 0]) rfl ?_
      refine lv_istore (lv' := [(6, .int 0), (0, .ref a), (1, .int v0), (2, .int v1), (3, .int v2), (4, .int v3), (5, .int v4)]) hx hb dX9_asks_24 hl (by decide) rfl (fun ls hl => ?_)
      refine lv_iload hx hb dX9_asks_26 (lv_at hl 0 rfl) ?_
      refine lv_if_eq (tgt := 34) hx hb dX9_asks_28 (by decide) (fun _ => ?_) (fun c_5 => absurd (by decide) c_5)
      refine lv_aload_n hx hb dX9_asks_34 rfl (lv_at hl 1 rfl) ?_
      refine t_getr cf_1 hx hb hts hown hK hT h_a (k := 2) (P := fun q => τ q = 3) rfl (fun _ h9 => h9) fl_X9_23 (fun _ h9 => h9) dX9_asks_35 (fun q_6 eq_6 hq_6 => ?_)
      have eq_6 := (hF.r h_a (by decide) rfl _).symm.trans eq_6
      refine lv_aload_n hx hb dX9_asks_38 rfl (lv_at hl 1 rfl) ?_
      refine t_getr cf_1 hx hb hts hown hK hT h_a (k := 10) (P := fun q => τ q = 7) rfl (fun _ h9 => h9) fl_X9_67 (fun _ h9 => h9) dX9_asks_39 (fun q_7 eq_7 hq_7 => ?_)
      have w_8 : q_1 = q_7 := Option.some.inj (eq_1.symm.trans ((hF.r h_a (by decide) rfl _).symm.trans eq_7))
      subst w_8
      refine lv_iload hx hb dX9_asks_42 (lv_at hl 5 rfl) ?_
      refine lv_iload hx hb dX9_asks_44 (lv_at hl 6 rfl) ?_
      refine t_callv (runV (As := [.ref q_1, .int v3, .int v4]) (rest := []) ⟨hx, hb, hml, hown, hts⟩ (t_X8_gatherAlone l D cy base τ G_4 q_6 hq_6 q_1 hq_1 v3 v4) sV_X9_184 hK (t_recv cf_3 hK hT hq_6) ⟨Nat.le_trans hZ hS.1, hT⟩ ⟨Nat.le_of_ble_eq_true rfl, Nat.le_of_ble_eq_true rfl⟩ rfl hl.1 rfl (Nat.le_of_ble_eq_true rfl) dX9_asks_46 ⟨Nat.le_of_ble_eq_true rfl, Nat.le_of_ble_eq_true rfl⟩) hS (fun G_9 H locs hF_9 hr_9 hT hS => ?_)
      have hF := hF.tr hF_9 rfl
      refine lv_aload_n hx hb dX9_asks_49 rfl (lv_at hl 1 rfl) ?_
      refine lv_iload_n hx hb dX9_asks_50 rfl (lv_at hl 3 rfl) ?_
      refine lv_iload_n hx hb dX9_asks_51 rfl (lv_at hl 4 rfl) ?_
      refine lv_iload hx hb dX9_asks_52 (lv_at hl 5 rfl) ?_
      refine lv_iload hx hb dX9_asks_54 (lv_at hl 6 rfl) ?_
      refine t_calli (runV (As := [.int v1, .int v2, .int v3, .int v4]) (rest := []) ⟨hx, hb, hml, hown, hts⟩ (t_X9_bestAsked l D cy base τ G_9 a h_a v1 v2 ⟨by omega, by omega⟩ v3 v4) sV_X9_279 hK (t_recv cf_1 hK hT h_a) ⟨Nat.le_trans hZ hS.1, hT⟩ ⟨Nat.le_of_ble_eq_true rfl, Nat.le_of_ble_eq_true rfl⟩ rfl hl.1 rfl (Nat.le_of_ble_eq_true rfl) dX9_asks_56 ⟨Nat.le_of_ble_eq_true rfl, Nat.le_of_ble_eq_true rfl⟩) hS (fun r_10 G_10 H locs hF_10 hr_10 hT hS => ?_)
      have hF := hF.tr hF_10 rfl
      exact ret_i hx hb hr hlocks ⟨⟨hS.1, hS.2.1⟩, G_10, hF, ⟨_, rfl, trivial⟩, hT⟩ hS.2.2 (Nat.le_of_ble_eq_true rfl) (Nat.le_of_ble_eq_true rfl) dX9_asks_59
    · skip
      have er_4 := hr_4_1
      subst er_4
      refine W.eq (g2 := F0 m 24 ls [.int (-2)]) rfl ?_
      refine lv_istore (lv' := [(6, .int (-2)), (0, .ref a), (1, .int v0), (2, .int v1), (3, .int v2), (4, .int v3), (5, .int v4)]) hx hb dX9_asks_24 hl (by decide) rfl (fun ls hl => ?_)
      refine lv_iload hx hb dX9_asks_26 (lv_at hl 0 rfl) ?_
      refine lv_if_eq (tgt := 34) hx hb dX9_asks_28 (by decide) (fun c_11 => absurd c_11 (by decide)) (fun _ => ?_)
      refine lv_iload hx hb dX9_asks_31 (lv_at hl 0 rfl) ?_
      exact ret_i hx hb hr hlocks ⟨⟨hS.1, hS.2.1⟩, G_4, hF, ⟨_, rfl, trivial⟩, hT⟩ hS.2.2 (Nat.le_of_ble_eq_true rfl) (Nat.le_of_ble_eq_true rfl) dX9_asks_33
    · skip
      have er_4 := hr_4_2
      subst er_4
      refine W.eq (g2 := F0 m 24 ls [.int (-6)]) rfl ?_
      refine lv_istore (lv' := [(6, .int (-6)), (0, .ref a), (1, .int v0), (2, .int v1), (3, .int v2), (4, .int v3), (5, .int v4)]) hx hb dX9_asks_24 hl (by decide) rfl (fun ls hl => ?_)
      refine lv_iload hx hb dX9_asks_26 (lv_at hl 0 rfl) ?_
      refine lv_if_eq (tgt := 34) hx hb dX9_asks_28 (by decide) (fun c_12 => absurd c_12 (by decide)) (fun _ => ?_)
      refine lv_iload hx hb dX9_asks_31 (lv_at hl 0 rfl) ?_
      exact ret_i hx hb hr hlocks ⟨⟨hS.1, hS.2.1⟩, G_4, hF, ⟨_, rfl, trivial⟩, hT⟩ hS.2.2 (Nat.le_of_ble_eq_true rfl) (Nat.le_of_ble_eq_true rfl) dX9_asks_33
  · skip
    have er_2 := hr_2_1
    subst er_2
    refine W.eq (g2 := F0 m 9 ls [.int 0]) rfl ?_
    refine lv_if_ne (tgt := 15) hx hb dX9_asks_9 (by decide) (fun c_13 => absurd rfl c_13) (fun _ => ?_)
    refine lv_bipush (v := (-2)) hx hb dX9_asks_12 (by decide) ?_
    exact ret_i hx hb hr hlocks ⟨⟨hS.1, hS.2.1⟩, G, hF, ⟨_, rfl, trivial⟩, hT⟩ hS.2.2 (Nat.le_of_ble_eq_true rfl) (Nat.le_of_ble_eq_true rfl) dX9_asks_14
set_option maxHeartbeats 4000000 in
set_option maxRecDepth 100000 in
theorem t_X9_pays (l : Launch) (D : va_G) (cy : Nat → ClassId) (base : Nat) (τ : Nat → Nat) (G : Gh) (a : Nat) (h_a : τ a = 1) (v0 : Int32) (v1 : Int32) (v2 : Int32) (v3 : Int32) (v4 : Int32) : MM l yX9_pays cX9_pays 9 (some .long) 5 0 0 D cy [.ref a, .int v0, .int v1, .int v2, .int v3, .int v4] (PT D cy base τ G) (QT D cy base τ G [3, 32, 36, 39] (fun v g => ∃ r : Int64, v = some (.long r) ∧ (True))) (RA base) := by
  refine MM.of (by decide) (Nat.le_of_ble_eq_true rfl) ?_
  intro p e s m below meth c C hPT ls hl
  obtain ⟨hx, hb, hr, hml, hown, hts, hlocks, hK, hnm⟩ := C
  obtain ⟨hZ, hT⟩ := hPT
  have hS : va_S (RA base) s.heap s.heap [] := va_S.rf
  have hF : Fr τ [3, 32, 36, 39] G G := Fr.rf
  have hl : lv_has ls 9 [(0, .ref a), (1, .int v0), (2, .int v1), (3, .int v2), (4, .int v3), (5, .int v4)] := hl
  refine lv_aload_n hx hb dX9_pays_0 rfl (lv_at hl 0 rfl) ?_
  refine t_getr cf_1 hx hb hts hown hK hT h_a (k := 10) (P := fun q => τ q = 7) rfl (fun _ h9 => h9) fl_X9_67 (fun _ h9 => h9) dX9_pays_1 (fun q_1 eq_1 hq_1 => ?_)
  refine lv_iload hx hb dX9_pays_4 (lv_at hl 5 rfl) ?_
  refine pu_calli (runV (As := [.int v4]) (rest := []) ⟨hx, hb, hml, hown, hts⟩ (t_X2_hasThing l D cy base τ G q_1 hq_1 v4) sV_X9_242 hK (t_recv cf_7 hK hT hq_1) ⟨Nat.le_trans hZ hS.1, hT⟩ ⟨Nat.le_of_ble_eq_true rfl, Nat.le_of_ble_eq_true rfl⟩ rfl hl.1 rfl (Nat.le_of_ble_eq_true rfl) dX9_pays_6 ⟨Nat.le_of_ble_eq_true rfl, Nat.le_of_ble_eq_true rfl⟩) (fun r_2 hr_2 => ?_)
  have hr_2_c := hr_2
  rcases hr_2_c with hr_2_0 | hr_2_1
  · skip
    obtain ⟨er_2, hr_2_0_f0, hr_2_0_f1⟩ := hr_2_0
    have hr_2_0_f0 : 0 ≤ v4.toInt := hr_2_0_f0
    have hr_2_0_f1 : v4.toInt ≤ 2 := hr_2_0_f1
    subst er_2
    refine W.eq (g2 := F0 m 9 ls [.int 1]) rfl ?_
    refine lv_if_ne (tgt := 16) hx hb dX9_pays_9 (by decide) (fun _ => ?_) (fun c_3 => absurd c_3 (by decide))
    refine lv_aload_n hx hb dX9_pays_16 rfl (lv_at hl 0 rfl) ?_
    refine lv_iload_n hx hb dX9_pays_17 rfl (lv_at hl 1 rfl) ?_
    refine lv_iload_n hx hb dX9_pays_18 rfl (lv_at hl 2 rfl) ?_
    refine lv_iload_n hx hb dX9_pays_19 rfl (lv_at hl 3 rfl) ?_
    refine lv_iload hx hb dX9_pays_20 (lv_at hl 4 rfl) ?_
    refine t_calli (runV (As := [.int v0, .int v1, .int v2, .int v3]) (rest := []) ⟨hx, hb, hml, hown, hts⟩ (t_X9_shareState l D cy base τ G a h_a v0 v1 v2 v3) sV_X9_273 hK (t_recv cf_1 hK hT h_a) ⟨Nat.le_trans hZ hS.1, hT⟩ ⟨Nat.le_of_ble_eq_true rfl, Nat.le_of_ble_eq_true rfl⟩ rfl hl.1 rfl (Nat.le_of_ble_eq_true rfl) dX9_pays_22 ⟨Nat.le_of_ble_eq_true rfl, Nat.le_of_ble_eq_true rfl⟩) hS (fun r_4 G_4 H locs hF_4 hr_4 hT hS => ?_)
    have hF := hF.tr hF_4 rfl
    have hr_4_c := hr_4
    rcases hr_4_c with hr_4_0 | hr_4_1 | hr_4_2
    · skip
      obtain ⟨er_4, hr_4_0_f0, hr_4_0_f1, hr_4_0_f2, hr_4_0_f3, hr_4_0_f4, hr_4_0_f5⟩ := hr_4_0
      have hr_4_0_f0 : 0 ≤ v1.toInt := hr_4_0_f0
      have hr_4_0_f1 : v1.toInt ≤ 1 := hr_4_0_f1
      have hr_4_0_f2 : 0 ≤ v2.toInt := hr_4_0_f2
      have hr_4_0_f3 : v2.toInt ≤ 99999 := hr_4_0_f3
      have hr_4_0_f4 : 0 ≤ v3.toInt := hr_4_0_f4
      have hr_4_0_f5 : v3.toInt ≤ 5 := hr_4_0_f5
      subst er_4
      refine W.eq (g2 := F0 m 25 ls [.int 0]) rfl ?_
      refine lv_istore (lv' := [(6, .int 0), (0, .ref a), (1, .int v0), (2, .int v1), (3, .int v2), (4, .int v3), (5, .int v4)]) hx hb dX9_pays_25 hl (by decide) rfl (fun ls hl => ?_)
      refine lv_iload hx hb dX9_pays_27 (lv_at hl 0 rfl) ?_
      refine lv_if_eq (tgt := 36) hx hb dX9_pays_29 (by decide) (fun _ => ?_) (fun c_5 => absurd (by decide) c_5)
      refine lv_aload_n hx hb dX9_pays_36 rfl (lv_at hl 1 rfl) ?_
      refine t_getr cf_1 hx hb hts hown hK hT h_a (k := 2) (P := fun q => τ q = 3) rfl (fun _ h9 => h9) fl_X9_23 (fun _ h9 => h9) dX9_pays_37 (fun q_6 eq_6 hq_6 => ?_)
      have eq_6 := (hF.r h_a (by decide) rfl _).symm.trans eq_6
      refine lv_aload_n hx hb dX9_pays_40 rfl (lv_at hl 1 rfl) ?_
      refine t_getr cf_1 hx hb hts hown hK hT h_a (k := 10) (P := fun q => τ q = 7) rfl (fun _ h9 => h9) fl_X9_67 (fun _ h9 => h9) dX9_pays_41 (fun q_7 eq_7 hq_7 => ?_)
      have w_8 : q_1 = q_7 := Option.some.inj (eq_1.symm.trans ((hF.r h_a (by decide) rfl _).symm.trans eq_7))
      subst w_8
      refine lv_iload hx hb dX9_pays_44 (lv_at hl 5 rfl) ?_
      refine lv_iload hx hb dX9_pays_46 (lv_at hl 6 rfl) ?_
      refine t_callv (runV (As := [.ref q_1, .int v3, .int v4]) (rest := []) ⟨hx, hb, hml, hown, hts⟩ (t_X8_gatherAlone l D cy base τ G_4 q_6 hq_6 q_1 hq_1 v3 v4) sV_X9_184 hK (t_recv cf_3 hK hT hq_6) ⟨Nat.le_trans hZ hS.1, hT⟩ ⟨Nat.le_of_ble_eq_true rfl, Nat.le_of_ble_eq_true rfl⟩ rfl hl.1 rfl (Nat.le_of_ble_eq_true rfl) dX9_pays_48 ⟨Nat.le_of_ble_eq_true rfl, Nat.le_of_ble_eq_true rfl⟩) hS (fun G_9 H locs hF_9 hr_9 hT hS => ?_)
      have hF := hF.tr hF_9 rfl
      refine lv_aload_n hx hb dX9_pays_51 rfl (lv_at hl 1 rfl) ?_
      refine t_getr cf_1 hx hb hts hown hK hT h_a (k := 2) (P := fun q => τ q = 3) rfl (fun _ h9 => h9) fl_X9_23 (fun _ h9 => h9) dX9_pays_52 (fun q_10 eq_10 hq_10 => ?_)
      have w_11 : q_6 = q_10 := Option.some.inj (eq_6.symm.trans ((hF.r h_a (by decide) rfl _).symm.trans eq_10))
      subst w_11
      refine lv_aload_n hx hb dX9_pays_55 rfl (lv_at hl 1 rfl) ?_
      refine t_getr cf_1 hx hb hts hown hK hT h_a (k := 10) (P := fun q => τ q = 7) rfl (fun _ h9 => h9) fl_X9_67 (fun _ h9 => h9) dX9_pays_56 (fun q_12 eq_12 hq_12 => ?_)
      have w_13 : q_1 = q_12 := Option.some.inj (eq_1.symm.trans ((hF.r h_a (by decide) rfl _).symm.trans eq_12))
      subst w_13
      refine lv_iload hx hb dX9_pays_59 (lv_at hl 6 rfl) ?_
      refine lv_aload_n hx hb dX9_pays_61 rfl (lv_at hl 1 rfl) ?_
      refine t_getr cf_1 hx hb hts hown hK hT h_a (k := 4) (P := fun q => τ q = 5) rfl (fun _ h9 => h9) fl_X9_37 (fun _ h9 => h9) dX9_pays_62 (fun q_14 eq_14 hq_14 => ?_)
      have eq_14 := (hF.r h_a (by decide) rfl _).symm.trans eq_14
      refine lv_iload_n hx hb dX9_pays_65 rfl (lv_at hl 3 rfl) ?_
      refine lv_iload_n hx hb dX9_pays_66 rfl (lv_at hl 4 rfl) ?_
      refine lv_iload hx hb dX9_pays_67 (lv_at hl 5 rfl) ?_
      refine pu_calli (runV (As := [.int v1, .int v2, .int v3]) (rest := [.int v4, .ref q_1, .ref q_6]) ⟨hx, hb, hml, hown, hts⟩ (t_X7_part l D cy base τ G_9 q_14 hq_14 v1 v2 ⟨by omega, by omega⟩ v3) sV_X9_276 hK (t_recv cf_5 hK hT hq_14) ⟨Nat.le_trans hZ hS.1, hT⟩ ⟨Nat.le_of_ble_eq_true rfl, Nat.le_of_ble_eq_true rfl⟩ rfl hl.1 rfl (Nat.le_of_ble_eq_true rfl) dX9_pays_69 ⟨Nat.le_of_ble_eq_true rfl, Nat.le_of_ble_eq_true rfl⟩) (fun r_15 hr_15 => ?_)
      obtain ⟨hr_15_lo, hr_15_hi⟩ := hr_15
      have hr_15_lo : 0 ≤ r_15.toInt := hr_15_lo
      have hr_15_hi : r_15.toInt ≤ 99899001 := hr_15_hi
      refine pu_calll (runV (As := [.ref q_1, .int v4, .int r_15]) (rest := []) ⟨hx, hb, hml, hown, hts⟩ (t_X8_lossWhole l D cy base τ G_9 q_6 hq_6 q_1 hq_1 v4 r_15 (by omega)) sV_X9_282 hK (t_recv cf_3 hK hT hq_6) ⟨Nat.le_trans hZ hS.1, hT⟩ ⟨Nat.le_of_ble_eq_true rfl, Nat.le_of_ble_eq_true rfl⟩ rfl hl.1 rfl (Nat.le_of_ble_eq_true rfl) dX9_pays_72 ⟨Nat.le_of_ble_eq_true rfl, Nat.le_of_ble_eq_true rfl⟩) (fun r_16 hr_16 => ?_)
      refine lv_lstore (lv' := [(7, .long r_16), (6, .int 0), (0, .ref a), (1, .int v0), (2, .int v1), (3, .int v2), (4, .int v3), (5, .int v4)]) hx hb dX9_pays_75 hl (by decide) rfl (fun ls hl => ?_)
      refine lv_lload hx hb dX9_pays_77 (lv_at hl 0 rfl) ?_
      refine lv_aload_n hx hb dX9_pays_79 rfl (lv_at hl 2 rfl) ?_
      refine lv_iload_n hx hb dX9_pays_80 rfl (lv_at hl 4 rfl) ?_
      refine lv_iload_n hx hb dX9_pays_81 rfl (lv_at hl 5 rfl) ?_
      refine lv_iload hx hb dX9_pays_82 (lv_at hl 6 rfl) ?_
      refine lv_iload hx hb dX9_pays_84 (lv_at hl 7 rfl) ?_
      refine lv_sipush (v := 999) hx hb dX9_pays_86 (by decide) ?_
      refine t_calll (runV (As := [.int v1, .int v2, .int v3, .int v4, .int 999]) (rest := [.long r_16]) ⟨hx, hb, hml, hown, hts⟩ (t_X9_lossIfAsked l D cy base τ G_9 a h_a v1 v2 ⟨by omega, by omega⟩ v3 v4 999 (by decide)) sV_X9_285 hK (t_recv cf_1 hK hT h_a) ⟨Nat.le_trans hZ hS.1, hT⟩ ⟨Nat.le_of_ble_eq_true rfl, Nat.le_of_ble_eq_true rfl⟩ rfl hl.1 rfl (Nat.le_of_ble_eq_true rfl) dX9_pays_89 ⟨Nat.le_of_ble_eq_true rfl, Nat.le_of_ble_eq_true rfl⟩) hS (fun r_17 G_17 H locs hF_17 hr_17 hT hS => ?_)
      have hF := hF.tr hF_17 rfl
      refine lv_lsub hx hb dX9_pays_92 ?_
      refine lv_topl (fun z_18 ez_18 => ?_)
      refine lv_ldc2 (v := 1000000000) hx hb hown (hts _ kl_X9_158) dX9_pays_93 ?_
      refine lv_ldiv hx hb dX9_pays_96 (by decide) ?_
      refine lv_topl (fun z_19 ez_19 => ?_)
      exact ret_l hx hb hr hlocks ⟨⟨hS.1, hS.2.1⟩, G_17, hF, ⟨_, rfl, trivial⟩, hT⟩ hS.2.2 (Nat.le_of_ble_eq_true rfl) (Nat.le_of_ble_eq_true rfl) dX9_pays_97
    · skip
      have er_4 := hr_4_1
      subst er_4
      refine W.eq (g2 := F0 m 25 ls [.int (-2)]) rfl ?_
      refine lv_istore (lv' := [(6, .int (-2)), (0, .ref a), (1, .int v0), (2, .int v1), (3, .int v2), (4, .int v3), (5, .int v4)]) hx hb dX9_pays_25 hl (by decide) rfl (fun ls hl => ?_)
      refine lv_iload hx hb dX9_pays_27 (lv_at hl 0 rfl) ?_
      refine lv_if_eq (tgt := 36) hx hb dX9_pays_29 (by decide) (fun c_20 => absurd c_20 (by decide)) (fun _ => ?_)
      refine lv_iload hx hb dX9_pays_32 (lv_at hl 0 rfl) ?_
      refine lv_i2l hx hb dX9_pays_34 rfl ?_
      refine lv_topl (fun z_21 ez_21 => ?_)
      have ez_21 : z_21 = (-2) := ez_21.trans (by decide)
      subst ez_21
      exact ret_l hx hb hr hlocks ⟨⟨hS.1, hS.2.1⟩, G_4, hF, ⟨_, rfl, trivial⟩, hT⟩ hS.2.2 (Nat.le_of_ble_eq_true rfl) (Nat.le_of_ble_eq_true rfl) dX9_pays_35
    · skip
      have er_4 := hr_4_2
      subst er_4
      refine W.eq (g2 := F0 m 25 ls [.int (-6)]) rfl ?_
      refine lv_istore (lv' := [(6, .int (-6)), (0, .ref a), (1, .int v0), (2, .int v1), (3, .int v2), (4, .int v3), (5, .int v4)]) hx hb dX9_pays_25 hl (by decide) rfl (fun ls hl => ?_)
      refine lv_iload hx hb dX9_pays_27 (lv_at hl 0 rfl) ?_
      refine lv_if_eq (tgt := 36) hx hb dX9_pays_29 (by decide) (fun c_22 => absurd c_22 (by decide)) (fun _ => ?_)
      refine lv_iload hx hb dX9_pays_32 (lv_at hl 0 rfl) ?_
      refine lv_i2l hx hb dX9_pays_34 rfl ?_
      refine lv_topl (fun z_23 ez_23 => ?_)
      have ez_23 : z_23 = (-6) := ez_23.trans (by decide)
      subst ez_23
      exact ret_l hx hb hr hlocks ⟨⟨hS.1, hS.2.1⟩, G_4, hF, ⟨_, rfl, trivial⟩, hT⟩ hS.2.2 (Nat.le_of_ble_eq_true rfl) (Nat.le_of_ble_eq_true rfl) dX9_pays_35
  · skip
    have er_2 := hr_2_1
    subst er_2
    refine W.eq (g2 := F0 m 9 ls [.int 0]) rfl ?_
    refine lv_if_ne (tgt := 16) hx hb dX9_pays_9 (by decide) (fun c_24 => absurd rfl c_24) (fun _ => ?_)
    refine lv_ldc2 (v := (-2)) hx hb hown (hts _ kl_X9_106) dX9_pays_12 ?_
    exact ret_l hx hb hr hlocks ⟨⟨hS.1, hS.2.1⟩, G, hF, ⟨_, rfl, trivial⟩, hT⟩ hS.2.2 (Nat.le_of_ble_eq_true rfl) (Nat.le_of_ble_eq_true rfl) dX9_pays_15
set_option maxHeartbeats 4000000 in
set_option maxRecDepth 100000 in
theorem t_X9_costOfHeld (l : Launch) (D : va_G) (cy : Nat → ClassId) (base : Nat) (τ : Nat → Nat) (G : Gh) (a : Nat) (h_a : τ a = 1) (v0 : Int32) (r_v0 : 0 ≤ v0.toInt ∧ v0.toInt ≤ 2) (v1 : Int32) (v2 : Int32) : MM l yX9_costOfHeld cX9_costOfHeld 4 (some .long) 2 0 0 D cy [.ref a, .int v0, .int v1, .int v2] (PT D cy base τ G) (PuL (fun r => True)) noF := by
  refine MM.of (by decide) (Nat.le_of_ble_eq_true rfl) ?_
  intro p e s m below meth c C hPT ls hl
  obtain ⟨hx, hb, hr, hml, hown, hts, hlocks, hK, hnm⟩ := C
  obtain ⟨hZ, hT⟩ := hPT
  have hS : va_S (RA base) s.heap s.heap [] := va_S.rf
  have hl : lv_has ls 4 [(0, .ref a), (1, .int v0), (2, .int v1), (3, .int v2)] := hl
  refine lv_aload_n hx hb dX9_costOfHeld_0 rfl (lv_at hl 0 rfl) ?_
  refine t_getr cf_1 hx hb hts hown hK hT h_a (k := 2) (P := fun q => τ q = 3) rfl (fun _ h9 => h9) fl_X9_23 (fun _ h9 => h9) dX9_costOfHeld_1 (fun q_1 eq_1 hq_1 => ?_)
  refine lv_iload_n hx hb dX9_costOfHeld_4 rfl (lv_at hl 3 rfl) ?_
  refine pu_calll (runV (As := [.int v2]) (rest := []) ⟨hx, hb, hml, hown, hts⟩ (t_X8_thousandths l D cy base τ G q_1 hq_1 v2) sV_X9_173 hK (t_recv cf_3 hK hT hq_1) ⟨Nat.le_trans hZ hS.1, hT⟩ ⟨Nat.le_of_ble_eq_true rfl, Nat.le_of_ble_eq_true rfl⟩ rfl hl.1 rfl (Nat.le_of_ble_eq_true rfl) dX9_costOfHeld_5 ⟨Nat.le_of_ble_eq_true rfl, Nat.le_of_ble_eq_true rfl⟩) (fun r_2 hr_2 => ?_)
  refine lv_ldc2 (v := 1000) hx hb hown (hts _ kl_X9_228) dX9_costOfHeld_8 ?_
  refine lv_aload_n hx hb dX9_costOfHeld_11 rfl (lv_at hl 0 rfl) ?_
  refine t_getr cf_1 hx hb hts hown hK hT h_a (k := 10) (P := fun q => τ q = 7) rfl (fun _ h9 => h9) fl_X9_67 (fun _ h9 => h9) dX9_costOfHeld_12 (fun q_3 eq_3 hq_3 => ?_)
  refine t_getr cf_7 hx hb hts hown hK hT hq_3 (k := 14) (P := fun q => τ q = 26) rfl (fun _ h9 => h9) fl_X9_346 (fun _ h9 => h9) dX9_costOfHeld_15 (fun q_4 eq_4 hq_4 => ?_)
  refine lv_iload_n hx hb dX9_costOfHeld_18 rfl (lv_at hl 1 rfl) ?_
  refine t_iald (n := 3) (i := v0) rfl (by decide) hx hb hK hT hq_4 (hT.len hq_4 (by decide)) ⟨by omega, by omega⟩ dX9_costOfHeld_19 (fun z_5 ez_5 rz_5 => ?_)
  refine lv_i2l hx hb dX9_costOfHeld_20 rfl ?_
  refine lv_topl (fun z_6 ez_6 => ?_)
  have tz_6 : z_6.toInt = z_5.toInt := by rw [ez_6]; exact wide_t z_5
  have az_6 := min_t z_5
  have bz_6 := max_t z_5
  refine lv_lmul hx hb dX9_costOfHeld_21 ?_
  refine lv_topl (fun z_7 ez_7 => ?_)
  have tz_7 : z_7.toInt = 1000 * z_6.toInt := mul_t64 ez_7 (show -9223372036854775808 ≤ 1000 * z_6.toInt by omega) (show 1000 * z_6.toInt < 9223372036854775808 by omega)
  refine lv_iload_n hx hb dX9_costOfHeld_22 rfl (lv_at hl 2 rfl) ?_
  refine lv_iload_n hx hb dX9_costOfHeld_23 rfl (lv_at hl 3 rfl) ?_
  refine lv_isub hx hb dX9_costOfHeld_24 ?_
  refine lv_topi (fun z_8 ez_8 => ?_)
  refine lv_i2l hx hb dX9_costOfHeld_25 rfl ?_
  refine lv_topl (fun z_9 ez_9 => ?_)
  have tz_9 : z_9.toInt = z_8.toInt := by rw [ez_9]; exact wide_t z_8
  have az_9 := min_t z_8
  have bz_9 := max_t z_8
  refine lv_lmul hx hb dX9_costOfHeld_26 ?_
  refine lv_topl (fun z_10 ez_10 => ?_)
  refine lv_ladd hx hb dX9_costOfHeld_27 ?_
  refine lv_topl (fun z_11 ez_11 => ?_)
  exact ret_l hx hb hr hlocks ⟨rfl, _, rfl, trivial⟩ (fun _ h => absurd h List.not_mem_nil) (Nat.le_refl _) (Nat.le_refl _) dX9_costOfHeld_28
set_option maxHeartbeats 4000000 in
set_option maxRecDepth 100000 in
theorem t_X9_costOfTwoStores (l : Launch) (D : va_G) (cy : Nat → ClassId) (base : Nat) (τ : Nat → Nat) (G : Gh) (a : Nat) (h_a : τ a = 1) (v0 : Int32) (r_v0 : 0 ≤ v0.toInt ∧ v0.toInt ≤ 2) (v1 : Int32) (v2 : Int32) : MM l yX9_costOfTwoStores cX9_costOfTwoStores 7 (some .long) 3 0 0 D cy [.ref a, .int v0, .int v1, .int v2] (PT D cy base τ G) (PuL (fun r => True)) noF := by
  refine MM.of (by decide) (Nat.le_of_ble_eq_true rfl) ?_
  intro p e s m below meth c C hPT ls hl
  obtain ⟨hx, hb, hr, hml, hown, hts, hlocks, hK, hnm⟩ := C
  obtain ⟨hZ, hT⟩ := hPT
  have hS : va_S (RA base) s.heap s.heap [] := va_S.rf
  have hl : lv_has ls 7 [(0, .ref a), (1, .int v0), (2, .int v1), (3, .int v2)] := hl
  refine lv_iload_n hx hb dX9_costOfTwoStores_0 rfl (lv_at hl 2 rfl) ?_
  refine lv_iconst (v := 2) hx hb dX9_costOfTwoStores_1 (by decide) ?_
  refine lv_idiv hx hb dX9_costOfTwoStores_2 (by decide) ?_
  refine lv_topi (fun z_1 ez_1 => ?_)
  refine lv_istore (lv' := [(4, .int z_1), (0, .ref a), (1, .int v0), (2, .int v1), (3, .int v2)]) hx hb dX9_costOfTwoStores_3 hl (by decide) rfl (fun ls hl => ?_)
  refine lv_bipush (v := 100) hx hb dX9_costOfTwoStores_5 (by decide) ?_
  refine lv_iload_n hx hb dX9_costOfTwoStores_7 rfl (lv_at hl 4 rfl) ?_
  refine lv_isub hx hb dX9_costOfTwoStores_8 ?_
  refine lv_topi (fun z_2 ez_2 => ?_)
  refine lv_i2l hx hb dX9_costOfTwoStores_9 rfl ?_
  refine lv_topl (fun z_3 ez_3 => ?_)
  have tz_3 : z_3.toInt = z_2.toInt := by rw [ez_3]; exact wide_t z_2
  have az_3 := min_t z_2
  have bz_3 := max_t z_2
  refine lv_lstore (lv' := [(5, .long z_3), (4, .int z_1), (0, .ref a), (1, .int v0), (2, .int v1), (3, .int v2)]) hx hb dX9_costOfTwoStores_10 hl (by decide) rfl (fun ls hl => ?_)
  refine lv_lload hx hb dX9_costOfTwoStores_12 (lv_at hl 0 rfl) ?_
  refine lv_lload hx hb dX9_costOfTwoStores_14 (lv_at hl 0 rfl) ?_
  refine lv_lmul hx hb dX9_costOfTwoStores_16 ?_
  refine lv_topl (fun z_4 ez_4 => ?_)
  refine lv_aload_n hx hb dX9_costOfTwoStores_17 rfl (lv_at hl 2 rfl) ?_
  refine t_getr cf_1 hx hb hts hown hK hT h_a (k := 2) (P := fun q => τ q = 3) rfl (fun _ h9 => h9) fl_X9_23 (fun _ h9 => h9) dX9_costOfTwoStores_18 (fun q_5 eq_5 hq_5 => ?_)
  refine lv_iload_n hx hb dX9_costOfTwoStores_21 rfl (lv_at hl 4 rfl) ?_
  refine pu_calll (runV (As := [.int v1]) (rest := [.long z_4]) ⟨hx, hb, hml, hown, hts⟩ (t_X8_thousandths l D cy base τ G q_5 hq_5 v1) sV_X9_173 hK (t_recv cf_3 hK hT hq_5) ⟨Nat.le_trans hZ hS.1, hT⟩ ⟨Nat.le_of_ble_eq_true rfl, Nat.le_of_ble_eq_true rfl⟩ rfl hl.1 rfl (Nat.le_of_ble_eq_true rfl) dX9_costOfTwoStores_22 ⟨Nat.le_of_ble_eq_true rfl, Nat.le_of_ble_eq_true rfl⟩) (fun r_6 hr_6 => ?_)
  refine lv_lmul hx hb dX9_costOfTwoStores_25 ?_
  refine lv_topl (fun z_7 ez_7 => ?_)
  refine lv_lload hx hb dX9_costOfTwoStores_26 (lv_at hl 0 rfl) ?_
  refine lv_iload_n hx hb dX9_costOfTwoStores_28 rfl (lv_at hl 5 rfl) ?_
  refine lv_i2l hx hb dX9_costOfTwoStores_29 rfl ?_
  refine lv_topl (fun z_8 ez_8 => ?_)
  have tz_8 : z_8.toInt = v2.toInt := by rw [ez_8]; exact wide_t v2
  have az_8 := min_t v2
  have bz_8 := max_t v2
  refine lv_lmul hx hb dX9_costOfTwoStores_30 ?_
  refine lv_topl (fun z_9 ez_9 => ?_)
  refine lv_aload_n hx hb dX9_costOfTwoStores_31 rfl (lv_at hl 2 rfl) ?_
  refine lv_iload_n hx hb dX9_costOfTwoStores_32 rfl (lv_at hl 3 rfl) ?_
  refine lv_iload_n hx hb dX9_costOfTwoStores_33 rfl (lv_at hl 4 rfl) ?_
  refine lv_iload hx hb dX9_costOfTwoStores_34 (lv_at hl 1 rfl) ?_
  refine pu_calll (runV (As := [.int v0, .int v1, .int z_1]) (rest := [.long z_9, .long z_7]) ⟨hx, hb, hml, hown, hts⟩ (t_X9_costOfHeld l D cy base τ G a h_a v0 ⟨by omega, by omega⟩ v1 z_1) sV_X9_292 hK (t_recv cf_1 hK hT h_a) ⟨Nat.le_trans hZ hS.1, hT⟩ ⟨Nat.le_of_ble_eq_true rfl, Nat.le_of_ble_eq_true rfl⟩ rfl hl.1 rfl (Nat.le_of_ble_eq_true rfl) dX9_costOfTwoStores_36 ⟨Nat.le_of_ble_eq_true rfl, Nat.le_of_ble_eq_true rfl⟩) (fun r_10 hr_10 => ?_)
  refine lv_lmul hx hb dX9_costOfTwoStores_39 ?_
  refine lv_topl (fun z_11 ez_11 => ?_)
  refine lv_ladd hx hb dX9_costOfTwoStores_40 ?_
  refine lv_topl (fun z_12 ez_12 => ?_)
  refine lv_lload hx hb dX9_costOfTwoStores_41 (lv_at hl 0 rfl) ?_
  refine lv_iload_n hx hb dX9_costOfTwoStores_43 rfl (lv_at hl 5 rfl) ?_
  refine lv_i2l hx hb dX9_costOfTwoStores_44 rfl ?_
  refine lv_topl (fun z_13 ez_13 => ?_)
  have tz_13 : z_13.toInt = v2.toInt := by rw [ez_13]; exact wide_t v2
  have az_13 := min_t v2
  have bz_13 := max_t v2
  refine lv_lmul hx hb dX9_costOfTwoStores_45 ?_
  refine lv_topl (fun z_14 ez_14 => ?_)
  refine lv_aload_n hx hb dX9_costOfTwoStores_46 rfl (lv_at hl 2 rfl) ?_
  refine lv_iload_n hx hb dX9_costOfTwoStores_47 rfl (lv_at hl 3 rfl) ?_
  refine lv_iload_n hx hb dX9_costOfTwoStores_48 rfl (lv_at hl 4 rfl) ?_
  refine lv_iload_n hx hb dX9_costOfTwoStores_49 rfl (lv_at hl 4 rfl) ?_
  refine lv_iload hx hb dX9_costOfTwoStores_50 (lv_at hl 1 rfl) ?_
  refine lv_isub hx hb dX9_costOfTwoStores_52 ?_
  refine lv_topi (fun z_15 ez_15 => ?_)
  refine pu_calll (runV (As := [.int v0, .int v1, .int z_15]) (rest := [.long z_14, .long z_12]) ⟨hx, hb, hml, hown, hts⟩ (t_X9_costOfHeld l D cy base τ G a h_a v0 ⟨by omega, by omega⟩ v1 z_15) sV_X9_292 hK (t_recv cf_1 hK hT h_a) ⟨Nat.le_trans hZ hS.1, hT⟩ ⟨Nat.le_of_ble_eq_true rfl, Nat.le_of_ble_eq_true rfl⟩ rfl hl.1 rfl (Nat.le_of_ble_eq_true rfl) dX9_costOfTwoStores_53 ⟨Nat.le_of_ble_eq_true rfl, Nat.le_of_ble_eq_true rfl⟩) (fun r_16 hr_16 => ?_)
  refine lv_lmul hx hb dX9_costOfTwoStores_56 ?_
  refine lv_topl (fun z_17 ez_17 => ?_)
  refine lv_ladd hx hb dX9_costOfTwoStores_57 ?_
  refine lv_topl (fun z_18 ez_18 => ?_)
  refine lv_iload_n hx hb dX9_costOfTwoStores_58 rfl (lv_at hl 5 rfl) ?_
  refine lv_i2l hx hb dX9_costOfTwoStores_59 rfl ?_
  refine lv_topl (fun z_19 ez_19 => ?_)
  have tz_19 : z_19.toInt = v2.toInt := by rw [ez_19]; exact wide_t v2
  have az_19 := min_t v2
  have bz_19 := max_t v2
  refine lv_iload_n hx hb dX9_costOfTwoStores_60 rfl (lv_at hl 5 rfl) ?_
  refine lv_i2l hx hb dX9_costOfTwoStores_61 rfl ?_
  refine lv_topl (fun z_20 ez_20 => ?_)
  have tz_20 : z_20.toInt = v2.toInt := by rw [ez_20]; exact wide_t v2
  have az_20 := min_t v2
  have bz_20 := max_t v2
  refine lv_lmul hx hb dX9_costOfTwoStores_62 ?_
  refine lv_topl (fun z_21 ez_21 => ?_)
  refine lv_aload_n hx hb dX9_costOfTwoStores_63 rfl (lv_at hl 2 rfl) ?_
  refine lv_iload_n hx hb dX9_costOfTwoStores_64 rfl (lv_at hl 3 rfl) ?_
  refine lv_iload_n hx hb dX9_costOfTwoStores_65 rfl (lv_at hl 4 rfl) ?_
  refine lv_iconst (v := 0) hx hb dX9_costOfTwoStores_66 (by decide) ?_
  refine pu_calll (runV (As := [.int v0, .int v1, .int 0]) (rest := [.long z_21, .long z_18]) ⟨hx, hb, hml, hown, hts⟩ (t_X9_costOfHeld l D cy base τ G a h_a v0 ⟨by omega, by omega⟩ v1 0) sV_X9_292 hK (t_recv cf_1 hK hT h_a) ⟨Nat.le_trans hZ hS.1, hT⟩ ⟨Nat.le_of_ble_eq_true rfl, Nat.le_of_ble_eq_true rfl⟩ rfl hl.1 rfl (Nat.le_of_ble_eq_true rfl) dX9_costOfTwoStores_67 ⟨Nat.le_of_ble_eq_true rfl, Nat.le_of_ble_eq_true rfl⟩) (fun r_22 hr_22 => ?_)
  refine lv_lmul hx hb dX9_costOfTwoStores_70 ?_
  refine lv_topl (fun z_23 ez_23 => ?_)
  refine lv_ladd hx hb dX9_costOfTwoStores_71 ?_
  refine lv_topl (fun z_24 ez_24 => ?_)
  refine lv_ldc2 (v := 10000) hx hb hown (hts _ kl_X9_394) dX9_costOfTwoStores_72 ?_
  refine lv_ldiv hx hb dX9_costOfTwoStores_75 (by decide) ?_
  refine lv_topl (fun z_25 ez_25 => ?_)
  exact ret_l hx hb hr hlocks ⟨rfl, _, rfl, trivial⟩ (fun _ h => absurd h List.not_mem_nil) (Nat.le_refl _) (Nat.le_refl _) dX9_costOfTwoStores_76
set_option maxHeartbeats 4000000 in
set_option maxRecDepth 100000 in
theorem t_X9_burnt (l : Launch) (D : va_G) (cy : Nat → ClassId) (base : Nat) (τ : Nat → Nat) (G : Gh) (a : Nat) (h_a : τ a = 1) (v0 : Int32) (v1 : Int32) (v2 : Int32) (v3 : Int32) : MM l yX9_burnt cX9_burnt 5 (some .long) 5 0 0 D cy [.ref a, .int v0, .int v1, .int v2, .int v3] (PT D cy base τ G) (QT D cy base τ G [3, 32, 36, 37] (fun v g => ∃ r : Int64, v = some (.long r) ∧ (True))) (RA base) := by
  refine MM.of (by decide) (Nat.le_of_ble_eq_true rfl) ?_
  intro p e s m below meth c C hPT ls hl
  obtain ⟨hx, hb, hr, hml, hown, hts, hlocks, hK, hnm⟩ := C
  obtain ⟨hZ, hT⟩ := hPT
  have hS : va_S (RA base) s.heap s.heap [] := va_S.rf
  have hF : Fr τ [3, 32, 36, 37] G G := Fr.rf
  have hl : lv_has ls 5 [(0, .ref a), (1, .int v0), (2, .int v1), (3, .int v2), (4, .int v3)] := hl
  refine lv_aload_n hx hb dX9_burnt_0 rfl (lv_at hl 0 rfl) ?_
  refine t_getr cf_1 hx hb hts hown hK hT h_a (k := 10) (P := fun q => τ q = 7) rfl (fun _ h9 => h9) fl_X9_67 (fun _ h9 => h9) dX9_burnt_1 (fun q_1 eq_1 hq_1 => ?_)
  refine lv_iload_n hx hb dX9_burnt_4 rfl (lv_at hl 1 rfl) ?_
  refine lv_iload_n hx hb dX9_burnt_5 rfl (lv_at hl 2 rfl) ?_
  refine pu_calli (runV (As := [.int v0, .int v1]) (rest := []) ⟨hx, hb, hml, hown, hts⟩ (t_X2_hasStore l D cy base τ G q_1 hq_1 v0 v1) sV_X9_160 hK (t_recv cf_7 hK hT hq_1) ⟨Nat.le_trans hZ hS.1, hT⟩ ⟨Nat.le_of_ble_eq_true rfl, Nat.le_of_ble_eq_true rfl⟩ rfl hl.1 rfl (Nat.le_of_ble_eq_true rfl) dX9_burnt_6 ⟨Nat.le_of_ble_eq_true rfl, Nat.le_of_ble_eq_true rfl⟩) (fun r_2 hr_2 => ?_)
  have hr_2_c := hr_2
  rcases hr_2_c with hr_2_0 | hr_2_1
  · skip
    obtain ⟨er_2, hr_2_0_f0, hr_2_0_f1, hr_2_0_f2, hr_2_0_f3⟩ := hr_2_0
    have hr_2_0_f0 : 0 ≤ v0.toInt := hr_2_0_f0
    have hr_2_0_f1 : v0.toInt ≤ 5 := hr_2_0_f1
    have hr_2_0_f2 : 0 ≤ v1.toInt := hr_2_0_f2
    have hr_2_0_f3 : v1.toInt ≤ 2 := hr_2_0_f3
    subst er_2
    refine W.eq (g2 := F0 m 9 ls [.int 1]) rfl ?_
    refine lv_if_eq (tgt := 27) hx hb dX9_burnt_9 (by decide) (fun c_3 => absurd c_3 (by decide)) (fun _ => ?_)
    refine lv_iload_n hx hb dX9_burnt_12 rfl (lv_at hl 3 rfl) ?_
    refine pu_calli (runS (As := [.int v2]) (rest := []) ⟨hx, hb, hml, hown, hts⟩ (t_X9_isSacks l D cy base τ G v2) sS_X9_167 hK ⟨Nat.le_trans hZ hS.1, hT⟩ ⟨Nat.le_of_ble_eq_true rfl, Nat.le_of_ble_eq_true rfl⟩ rfl hl.1 rfl (Nat.le_of_ble_eq_true rfl) dX9_burnt_13 ⟨Nat.le_of_ble_eq_true rfl, Nat.le_of_ble_eq_true rfl⟩) (fun r_4 hr_4 => ?_)
    have hr_4_c := hr_4
    rcases hr_4_c with hr_4_0 | hr_4_1
    · skip
      obtain ⟨er_4, hr_4_0_f0, hr_4_0_f1⟩ := hr_4_0
      have hr_4_0_f0 : 0 ≤ v2.toInt := hr_4_0_f0
      have hr_4_0_f1 : v2.toInt ≤ 999 := hr_4_0_f1
      subst er_4
      refine W.eq (g2 := F0 m 16 ls [.int 1]) rfl ?_
      refine lv_if_eq (tgt := 27) hx hb dX9_burnt_16 (by decide) (fun c_5 => absurd c_5 (by decide)) (fun _ => ?_)
      refine lv_iload hx hb dX9_burnt_19 (lv_at hl 4 rfl) ?_
      refine pu_calli (runS (As := [.int v3]) (rest := []) ⟨hx, hb, hml, hown, hts⟩ (t_X9_isHundredth l D cy base τ G v3) sS_X9_289 hK ⟨Nat.le_trans hZ hS.1, hT⟩ ⟨Nat.le_of_ble_eq_true rfl, Nat.le_of_ble_eq_true rfl⟩ rfl hl.1 rfl (Nat.le_of_ble_eq_true rfl) dX9_burnt_21 ⟨Nat.le_of_ble_eq_true rfl, Nat.le_of_ble_eq_true rfl⟩) (fun r_6 hr_6 => ?_)
      have hr_6_c := hr_6
      rcases hr_6_c with hr_6_0 | hr_6_1
      · skip
        obtain ⟨er_6, hr_6_0_f0, hr_6_0_f1⟩ := hr_6_0
        have hr_6_0_f0 : 0 ≤ v3.toInt := hr_6_0_f0
        have hr_6_0_f1 : v3.toInt ≤ 100 := hr_6_0_f1
        subst er_6
        refine W.eq (g2 := F0 m 24 ls [.int 1]) rfl ?_
        refine lv_if_ne (tgt := 31) hx hb dX9_burnt_24 (by decide) (fun _ => ?_) (fun c_7 => absurd c_7 (by decide))
        refine lv_aload_n hx hb dX9_burnt_31 rfl (lv_at hl 0 rfl) ?_
        refine t_getr cf_1 hx hb hts hown hK hT h_a (k := 2) (P := fun q => τ q = 3) rfl (fun _ h9 => h9) fl_X9_23 (fun _ h9 => h9) dX9_burnt_32 (fun q_8 eq_8 hq_8 => ?_)
        refine lv_aload_n hx hb dX9_burnt_35 rfl (lv_at hl 0 rfl) ?_
        refine t_getr cf_1 hx hb hts hown hK hT h_a (k := 10) (P := fun q => τ q = 7) rfl (fun _ h9 => h9) fl_X9_67 (fun _ h9 => h9) dX9_burnt_36 (fun q_9 eq_9 hq_9 => ?_)
        have w_10 : q_1 = q_9 := Option.some.inj (eq_1.symm.trans eq_9)
        subst w_10
        refine lv_iload_n hx hb dX9_burnt_39 rfl (lv_at hl 1 rfl) ?_
        refine lv_iload_n hx hb dX9_burnt_40 rfl (lv_at hl 2 rfl) ?_
        refine t_callv (runV (As := [.ref q_1, .int v0, .int v1]) (rest := []) ⟨hx, hb, hml, hown, hts⟩ (t_X8_layAlone l D cy base τ G q_8 hq_8 q_1 hq_1 v0 v1) sV_X9_170 hK (t_recv cf_3 hK hT hq_8) ⟨Nat.le_trans hZ hS.1, hT⟩ ⟨Nat.le_of_ble_eq_true rfl, Nat.le_of_ble_eq_true rfl⟩ rfl hl.1 rfl (Nat.le_of_ble_eq_true rfl) dX9_burnt_41 ⟨Nat.le_of_ble_eq_true rfl, Nat.le_of_ble_eq_true rfl⟩) hS (fun G_11 H locs hF_11 hr_11 hT hS => ?_)
        have hF := hF.tr hF_11 rfl
        refine lv_bipush (v := 100) hx hb dX9_burnt_44 (by decide) ?_
        refine lv_iload hx hb dX9_burnt_46 (lv_at hl 4 rfl) ?_
        refine lv_isub hx hb dX9_burnt_48 ?_
        refine lv_topi (fun z_12 ez_12 => ?_)
        have tz_12 : z_12.toInt = 100 - v3.toInt := sub_t ez_12 (show -2147483648 ≤ 100 - v3.toInt by omega) (show 100 - v3.toInt < 2147483648 by omega)
        refine lv_i2l hx hb dX9_burnt_49 rfl ?_
        refine lv_topl (fun z_13 ez_13 => ?_)
        have tz_13 : z_13.toInt = z_12.toInt := by rw [ez_13]; exact wide_t z_12
        refine lv_aload_n hx hb dX9_burnt_50 rfl (lv_at hl 0 rfl) ?_
        refine t_getr cf_1 hx hb hts hown hK hT h_a (k := 2) (P := fun q => τ q = 3) rfl (fun _ h9 => h9) fl_X9_23 (fun _ h9 => h9) dX9_burnt_51 (fun q_14 eq_14 hq_14 => ?_)
        have w_15 : q_8 = q_14 := Option.some.inj (eq_8.symm.trans ((hF.r h_a (by decide) rfl _).symm.trans eq_14))
        subst w_15
        refine lv_iload_n hx hb dX9_burnt_54 rfl (lv_at hl 3 rfl) ?_
        refine pu_calll (runV (As := [.int v2]) (rest := [.long z_13]) ⟨hx, hb, hml, hown, hts⟩ (t_X8_thousandths l D cy base τ G_11 q_8 hq_8 v2) sV_X9_173 hK (t_recv cf_3 hK hT hq_8) ⟨Nat.le_trans hZ hS.1, hT⟩ ⟨Nat.le_of_ble_eq_true rfl, Nat.le_of_ble_eq_true rfl⟩ rfl hl.1 rfl (Nat.le_of_ble_eq_true rfl) dX9_burnt_55 ⟨Nat.le_of_ble_eq_true rfl, Nat.le_of_ble_eq_true rfl⟩) (fun r_16 hr_16 => ?_)
        refine lv_lmul hx hb dX9_burnt_58 ?_
        refine lv_topl (fun z_17 ez_17 => ?_)
        refine lv_iload hx hb dX9_burnt_59 (lv_at hl 4 rfl) ?_
        refine lv_i2l hx hb dX9_burnt_61 rfl ?_
        refine lv_topl (fun z_18 ez_18 => ?_)
        have tz_18 : z_18.toInt = v3.toInt := by rw [ez_18]; exact wide_t v3
        refine lv_aload_n hx hb dX9_burnt_62 rfl (lv_at hl 0 rfl) ?_
        refine lv_iload_n hx hb dX9_burnt_63 rfl (lv_at hl 2 rfl) ?_
        refine lv_iload_n hx hb dX9_burnt_64 rfl (lv_at hl 3 rfl) ?_
        refine lv_iconst (v := 0) hx hb dX9_burnt_65 (by decide) ?_
        refine pu_calll (runV (As := [.int v1, .int v2, .int 0]) (rest := [.long z_18, .long z_17]) ⟨hx, hb, hml, hown, hts⟩ (t_X9_costOfHeld l D cy base τ G_11 a h_a v1 ⟨by omega, by omega⟩ v2 0) sV_X9_292 hK (t_recv cf_1 hK hT h_a) ⟨Nat.le_trans hZ hS.1, hT⟩ ⟨Nat.le_of_ble_eq_true rfl, Nat.le_of_ble_eq_true rfl⟩ rfl hl.1 rfl (Nat.le_of_ble_eq_true rfl) dX9_burnt_66 ⟨Nat.le_of_ble_eq_true rfl, Nat.le_of_ble_eq_true rfl⟩) (fun r_19 hr_19 => ?_)
        refine lv_lmul hx hb dX9_burnt_69 ?_
        refine lv_topl (fun z_20 ez_20 => ?_)
        refine lv_ladd hx hb dX9_burnt_70 ?_
        refine lv_topl (fun z_21 ez_21 => ?_)
        refine lv_ldc2 (v := 100) hx hb hown (hts _ kl_X9_296) dX9_burnt_71 ?_
        refine lv_ldiv hx hb dX9_burnt_74 (by decide) ?_
        refine lv_topl (fun z_22 ez_22 => ?_)
        exact ret_l hx hb hr hlocks ⟨⟨hS.1, hS.2.1⟩, G_11, hF, ⟨_, rfl, trivial⟩, hT⟩ hS.2.2 (Nat.le_of_ble_eq_true rfl) (Nat.le_of_ble_eq_true rfl) dX9_burnt_75
      · skip
        have er_6 := hr_6_1
        subst er_6
        refine W.eq (g2 := F0 m 24 ls [.int 0]) rfl ?_
        refine lv_if_ne (tgt := 31) hx hb dX9_burnt_24 (by decide) (fun c_23 => absurd rfl c_23) (fun _ => ?_)
        refine lv_ldc2 (v := (-2)) hx hb hown (hts _ kl_X9_106) dX9_burnt_27 ?_
        exact ret_l hx hb hr hlocks ⟨⟨hS.1, hS.2.1⟩, G, hF, ⟨_, rfl, trivial⟩, hT⟩ hS.2.2 (Nat.le_of_ble_eq_true rfl) (Nat.le_of_ble_eq_true rfl) dX9_burnt_30
    · skip
      have er_4 := hr_4_1
      subst er_4
      refine W.eq (g2 := F0 m 16 ls [.int 0]) rfl ?_
      refine lv_if_eq (tgt := 27) hx hb dX9_burnt_16 (by decide) (fun _ => ?_) (fun c_24 => absurd (by decide) c_24)
      refine lv_ldc2 (v := (-2)) hx hb hown (hts _ kl_X9_106) dX9_burnt_27 ?_
      exact ret_l hx hb hr hlocks ⟨⟨hS.1, hS.2.1⟩, G, hF, ⟨_, rfl, trivial⟩, hT⟩ hS.2.2 (Nat.le_of_ble_eq_true rfl) (Nat.le_of_ble_eq_true rfl) dX9_burnt_30
  · skip
    have er_2 := hr_2_1
    subst er_2
    refine W.eq (g2 := F0 m 9 ls [.int 0]) rfl ?_
    refine lv_if_eq (tgt := 27) hx hb dX9_burnt_9 (by decide) (fun _ => ?_) (fun c_25 => absurd (by decide) c_25)
    refine lv_ldc2 (v := (-2)) hx hb hown (hts _ kl_X9_106) dX9_burnt_27 ?_
    exact ret_l hx hb hr hlocks ⟨⟨hS.1, hS.2.1⟩, G, hF, ⟨_, rfl, trivial⟩, hT⟩ hS.2.2 (Nat.le_of_ble_eq_true rfl) (Nat.le_of_ble_eq_true rfl) dX9_burnt_30
set_option maxHeartbeats 4000000 in
set_option maxRecDepth 100000 in
theorem t_X9_spread (l : Launch) (D : va_G) (cy : Nat → ClassId) (base : Nat) (τ : Nat → Nat) (G : Gh) (a : Nat) (h_a : τ a = 1) (v0 : Int32) (v1 : Int32) (v2 : Int32) (v3 : Int32) : MM l yX9_spread cX9_spread 5 (some .long) 5 0 0 D cy [.ref a, .int v0, .int v1, .int v2, .int v3] (PT D cy base τ G) (QT D cy base τ G [3, 32, 36, 37] (fun v g => ∃ r : Int64, v = some (.long r) ∧ (True))) (RA base) := by
  refine MM.of (by decide) (Nat.le_of_ble_eq_true rfl) ?_
  intro p e s m below meth c C hPT ls hl
  obtain ⟨hx, hb, hr, hml, hown, hts, hlocks, hK, hnm⟩ := C
  obtain ⟨hZ, hT⟩ := hPT
  have hS : va_S (RA base) s.heap s.heap [] := va_S.rf
  have hF : Fr τ [3, 32, 36, 37] G G := Fr.rf
  have hl : lv_has ls 5 [(0, .ref a), (1, .int v0), (2, .int v1), (3, .int v2), (4, .int v3)] := hl
  refine lv_aload_n hx hb dX9_spread_0 rfl (lv_at hl 0 rfl) ?_
  refine t_getr cf_1 hx hb hts hown hK hT h_a (k := 10) (P := fun q => τ q = 7) rfl (fun _ h9 => h9) fl_X9_67 (fun _ h9 => h9) dX9_spread_1 (fun q_1 eq_1 hq_1 => ?_)
  refine lv_iload_n hx hb dX9_spread_4 rfl (lv_at hl 1 rfl) ?_
  refine lv_iload_n hx hb dX9_spread_5 rfl (lv_at hl 2 rfl) ?_
  refine pu_calli (runV (As := [.int v0, .int v1]) (rest := []) ⟨hx, hb, hml, hown, hts⟩ (t_X2_hasStore l D cy base τ G q_1 hq_1 v0 v1) sV_X9_160 hK (t_recv cf_7 hK hT hq_1) ⟨Nat.le_trans hZ hS.1, hT⟩ ⟨Nat.le_of_ble_eq_true rfl, Nat.le_of_ble_eq_true rfl⟩ rfl hl.1 rfl (Nat.le_of_ble_eq_true rfl) dX9_spread_6 ⟨Nat.le_of_ble_eq_true rfl, Nat.le_of_ble_eq_true rfl⟩) (fun r_2 hr_2 => ?_)
  have hr_2_c := hr_2
  rcases hr_2_c with hr_2_0 | hr_2_1
  · skip
    obtain ⟨er_2, hr_2_0_f0, hr_2_0_f1, hr_2_0_f2, hr_2_0_f3⟩ := hr_2_0
    have hr_2_0_f0 : 0 ≤ v0.toInt := hr_2_0_f0
    have hr_2_0_f1 : v0.toInt ≤ 5 := hr_2_0_f1
    have hr_2_0_f2 : 0 ≤ v1.toInt := hr_2_0_f2
    have hr_2_0_f3 : v1.toInt ≤ 2 := hr_2_0_f3
    subst er_2
    refine W.eq (g2 := F0 m 9 ls [.int 1]) rfl ?_
    refine lv_if_eq (tgt := 27) hx hb dX9_spread_9 (by decide) (fun c_3 => absurd c_3 (by decide)) (fun _ => ?_)
    refine lv_iload_n hx hb dX9_spread_12 rfl (lv_at hl 3 rfl) ?_
    refine pu_calli (runS (As := [.int v2]) (rest := []) ⟨hx, hb, hml, hown, hts⟩ (t_X9_isSacks l D cy base τ G v2) sS_X9_167 hK ⟨Nat.le_trans hZ hS.1, hT⟩ ⟨Nat.le_of_ble_eq_true rfl, Nat.le_of_ble_eq_true rfl⟩ rfl hl.1 rfl (Nat.le_of_ble_eq_true rfl) dX9_spread_13 ⟨Nat.le_of_ble_eq_true rfl, Nat.le_of_ble_eq_true rfl⟩) (fun r_4 hr_4 => ?_)
    have hr_4_c := hr_4
    rcases hr_4_c with hr_4_0 | hr_4_1
    · skip
      obtain ⟨er_4, hr_4_0_f0, hr_4_0_f1⟩ := hr_4_0
      have hr_4_0_f0 : 0 ≤ v2.toInt := hr_4_0_f0
      have hr_4_0_f1 : v2.toInt ≤ 999 := hr_4_0_f1
      subst er_4
      refine W.eq (g2 := F0 m 16 ls [.int 1]) rfl ?_
      refine lv_if_eq (tgt := 27) hx hb dX9_spread_16 (by decide) (fun c_5 => absurd c_5 (by decide)) (fun _ => ?_)
      refine lv_iload hx hb dX9_spread_19 (lv_at hl 4 rfl) ?_
      refine pu_calli (runS (As := [.int v3]) (rest := []) ⟨hx, hb, hml, hown, hts⟩ (t_X9_isHundredth l D cy base τ G v3) sS_X9_289 hK ⟨Nat.le_trans hZ hS.1, hT⟩ ⟨Nat.le_of_ble_eq_true rfl, Nat.le_of_ble_eq_true rfl⟩ rfl hl.1 rfl (Nat.le_of_ble_eq_true rfl) dX9_spread_21 ⟨Nat.le_of_ble_eq_true rfl, Nat.le_of_ble_eq_true rfl⟩) (fun r_6 hr_6 => ?_)
      have hr_6_c := hr_6
      rcases hr_6_c with hr_6_0 | hr_6_1
      · skip
        obtain ⟨er_6, hr_6_0_f0, hr_6_0_f1⟩ := hr_6_0
        have hr_6_0_f0 : 0 ≤ v3.toInt := hr_6_0_f0
        have hr_6_0_f1 : v3.toInt ≤ 100 := hr_6_0_f1
        subst er_6
        refine W.eq (g2 := F0 m 24 ls [.int 1]) rfl ?_
        refine lv_if_ne (tgt := 31) hx hb dX9_spread_24 (by decide) (fun _ => ?_) (fun c_7 => absurd c_7 (by decide))
        refine lv_aload_n hx hb dX9_spread_31 rfl (lv_at hl 0 rfl) ?_
        refine t_getr cf_1 hx hb hts hown hK hT h_a (k := 2) (P := fun q => τ q = 3) rfl (fun _ h9 => h9) fl_X9_23 (fun _ h9 => h9) dX9_spread_32 (fun q_8 eq_8 hq_8 => ?_)
        refine lv_aload_n hx hb dX9_spread_35 rfl (lv_at hl 0 rfl) ?_
        refine t_getr cf_1 hx hb hts hown hK hT h_a (k := 10) (P := fun q => τ q = 7) rfl (fun _ h9 => h9) fl_X9_67 (fun _ h9 => h9) dX9_spread_36 (fun q_9 eq_9 hq_9 => ?_)
        have w_10 : q_1 = q_9 := Option.some.inj (eq_1.symm.trans eq_9)
        subst w_10
        refine lv_iload_n hx hb dX9_spread_39 rfl (lv_at hl 1 rfl) ?_
        refine lv_iload_n hx hb dX9_spread_40 rfl (lv_at hl 2 rfl) ?_
        refine t_callv (runV (As := [.ref q_1, .int v0, .int v1]) (rest := []) ⟨hx, hb, hml, hown, hts⟩ (t_X8_layAlone l D cy base τ G q_8 hq_8 q_1 hq_1 v0 v1) sV_X9_170 hK (t_recv cf_3 hK hT hq_8) ⟨Nat.le_trans hZ hS.1, hT⟩ ⟨Nat.le_of_ble_eq_true rfl, Nat.le_of_ble_eq_true rfl⟩ rfl hl.1 rfl (Nat.le_of_ble_eq_true rfl) dX9_spread_41 ⟨Nat.le_of_ble_eq_true rfl, Nat.le_of_ble_eq_true rfl⟩) hS (fun G_11 H locs hF_11 hr_11 hT hS => ?_)
        have hF := hF.tr hF_11 rfl
        refine lv_aload_n hx hb dX9_spread_44 rfl (lv_at hl 0 rfl) ?_
        refine lv_iload_n hx hb dX9_spread_45 rfl (lv_at hl 2 rfl) ?_
        refine lv_iload_n hx hb dX9_spread_46 rfl (lv_at hl 3 rfl) ?_
        refine lv_iload hx hb dX9_spread_47 (lv_at hl 4 rfl) ?_
        refine pu_calll (runV (As := [.int v1, .int v2, .int v3]) (rest := []) ⟨hx, hb, hml, hown, hts⟩ (t_X9_costOfTwoStores l D cy base τ G_11 a h_a v1 ⟨by omega, by omega⟩ v2 v3) sV_X9_298 hK (t_recv cf_1 hK hT h_a) ⟨Nat.le_trans hZ hS.1, hT⟩ ⟨Nat.le_of_ble_eq_true rfl, Nat.le_of_ble_eq_true rfl⟩ rfl hl.1 rfl (Nat.le_of_ble_eq_true rfl) dX9_spread_49 ⟨Nat.le_of_ble_eq_true rfl, Nat.le_of_ble_eq_true rfl⟩) (fun r_12 hr_12 => ?_)
        exact ret_l hx hb hr hlocks ⟨⟨hS.1, hS.2.1⟩, G_11, hF, ⟨_, rfl, trivial⟩, hT⟩ hS.2.2 (Nat.le_of_ble_eq_true rfl) (Nat.le_of_ble_eq_true rfl) dX9_spread_52
      · skip
        have er_6 := hr_6_1
        subst er_6
        refine W.eq (g2 := F0 m 24 ls [.int 0]) rfl ?_
        refine lv_if_ne (tgt := 31) hx hb dX9_spread_24 (by decide) (fun c_13 => absurd rfl c_13) (fun _ => ?_)
        refine lv_ldc2 (v := (-2)) hx hb hown (hts _ kl_X9_106) dX9_spread_27 ?_
        exact ret_l hx hb hr hlocks ⟨⟨hS.1, hS.2.1⟩, G, hF, ⟨_, rfl, trivial⟩, hT⟩ hS.2.2 (Nat.le_of_ble_eq_true rfl) (Nat.le_of_ble_eq_true rfl) dX9_spread_30
    · skip
      have er_4 := hr_4_1
      subst er_4
      refine W.eq (g2 := F0 m 16 ls [.int 0]) rfl ?_
      refine lv_if_eq (tgt := 27) hx hb dX9_spread_16 (by decide) (fun _ => ?_) (fun c_14 => absurd (by decide) c_14)
      refine lv_ldc2 (v := (-2)) hx hb hown (hts _ kl_X9_106) dX9_spread_27 ?_
      exact ret_l hx hb hr hlocks ⟨⟨hS.1, hS.2.1⟩, G, hF, ⟨_, rfl, trivial⟩, hT⟩ hS.2.2 (Nat.le_of_ble_eq_true rfl) (Nat.le_of_ble_eq_true rfl) dX9_spread_30
  · skip
    have er_2 := hr_2_1
    subst er_2
    refine W.eq (g2 := F0 m 9 ls [.int 0]) rfl ?_
    refine lv_if_eq (tgt := 27) hx hb dX9_spread_9 (by decide) (fun _ => ?_) (fun c_15 => absurd (by decide) c_15)
    refine lv_ldc2 (v := (-2)) hx hb hown (hts _ kl_X9_106) dX9_spread_27 ?_
    exact ret_l hx hb hr hlocks ⟨⟨hS.1, hS.2.1⟩, G, hF, ⟨_, rfl, trivial⟩, hT⟩ hS.2.2 (Nat.le_of_ble_eq_true rfl) (Nat.le_of_ble_eq_true rfl) dX9_spread_30
set_option maxHeartbeats 4000000 in
set_option maxRecDepth 100000 in
theorem t_X9_bear (l : Launch) (D : va_G) (cy : Nat → ClassId) (base : Nat) (τ : Nat → Nat) (G : Gh) (a : Nat) (h_a : τ a = 1) (v0 : Int32) (v1 : Int32) (v2 : Int32) : MM l yX9_bear cX9_bear 10 (some .int) 5 0 0 D cy [.ref a, .int v0, .int v1, .int v2] (PT D cy base τ G) (QT D cy base τ G [3, 32, 36, 37] (fun v g => ∃ r : Int32, v = some (.int r) ∧ (True))) (RA base) := by
  refine MM.of (by decide) (Nat.le_of_ble_eq_true rfl) ?_
  intro p e s m below meth c C hPT ls hl
  obtain ⟨hx, hb, hr, hml, hown, hts, hlocks, hK, hnm⟩ := C
  obtain ⟨hZ, hT⟩ := hPT
  have hS : va_S (RA base) s.heap s.heap [] := va_S.rf
  have hF : Fr τ [3, 32, 36, 37] G G := Fr.rf
  have hl : lv_has ls 10 [(0, .ref a), (1, .int v0), (2, .int v1), (3, .int v2)] := hl
  refine lv_aload_n hx hb dX9_bear_0 rfl (lv_at hl 0 rfl) ?_
  refine t_getr cf_1 hx hb hts hown hK hT h_a (k := 10) (P := fun q => τ q = 7) rfl (fun _ h9 => h9) fl_X9_67 (fun _ h9 => h9) dX9_bear_1 (fun q_1 eq_1 hq_1 => ?_)
  refine lv_iload_n hx hb dX9_bear_4 rfl (lv_at hl 1 rfl) ?_
  refine lv_iload_n hx hb dX9_bear_5 rfl (lv_at hl 2 rfl) ?_
  refine pu_calli (runV (As := [.int v0, .int v1]) (rest := []) ⟨hx, hb, hml, hown, hts⟩ (t_X2_hasStore l D cy base τ G q_1 hq_1 v0 v1) sV_X9_160 hK (t_recv cf_7 hK hT hq_1) ⟨Nat.le_trans hZ hS.1, hT⟩ ⟨Nat.le_of_ble_eq_true rfl, Nat.le_of_ble_eq_true rfl⟩ rfl hl.1 rfl (Nat.le_of_ble_eq_true rfl) dX9_bear_6 ⟨Nat.le_of_ble_eq_true rfl, Nat.le_of_ble_eq_true rfl⟩) (fun r_2 hr_2 => ?_)
  have hr_2_c := hr_2
  rcases hr_2_c with hr_2_0 | hr_2_1
  · skip
    obtain ⟨er_2, hr_2_0_f0, hr_2_0_f1, hr_2_0_f2, hr_2_0_f3⟩ := hr_2_0
    have hr_2_0_f0 : 0 ≤ v0.toInt := hr_2_0_f0
    have hr_2_0_f1 : v0.toInt ≤ 5 := hr_2_0_f1
    have hr_2_0_f2 : 0 ≤ v1.toInt := hr_2_0_f2
    have hr_2_0_f3 : v1.toInt ≤ 2 := hr_2_0_f3
    subst er_2
    refine W.eq (g2 := F0 m 9 ls [.int 1]) rfl ?_
    refine lv_if_eq (tgt := 19) hx hb dX9_bear_9 (by decide) (fun c_3 => absurd c_3 (by decide)) (fun _ => ?_)
    refine lv_iload_n hx hb dX9_bear_12 rfl (lv_at hl 3 rfl) ?_
    refine pu_calli (runS (As := [.int v2]) (rest := []) ⟨hx, hb, hml, hown, hts⟩ (t_X9_isHundredth l D cy base τ G v2) sS_X9_289 hK ⟨Nat.le_trans hZ hS.1, hT⟩ ⟨Nat.le_of_ble_eq_true rfl, Nat.le_of_ble_eq_true rfl⟩ rfl hl.1 rfl (Nat.le_of_ble_eq_true rfl) dX9_bear_13 ⟨Nat.le_of_ble_eq_true rfl, Nat.le_of_ble_eq_true rfl⟩) (fun r_4 hr_4 => ?_)
    have hr_4_c := hr_4
    rcases hr_4_c with hr_4_0 | hr_4_1
    · skip
      obtain ⟨er_4, hr_4_0_f0, hr_4_0_f1⟩ := hr_4_0
      have hr_4_0_f0 : 0 ≤ v2.toInt := hr_4_0_f0
      have hr_4_0_f1 : v2.toInt ≤ 100 := hr_4_0_f1
      subst er_4
      refine W.eq (g2 := F0 m 16 ls [.int 1]) rfl ?_
      refine lv_if_ne (tgt := 22) hx hb dX9_bear_16 (by decide) (fun _ => ?_) (fun c_5 => absurd c_5 (by decide))
      refine lv_aload_n hx hb dX9_bear_22 rfl (lv_at hl 0 rfl) ?_
      refine t_getr cf_1 hx hb hts hown hK hT h_a (k := 2) (P := fun q => τ q = 3) rfl (fun _ h9 => h9) fl_X9_23 (fun _ h9 => h9) dX9_bear_23 (fun q_6 eq_6 hq_6 => ?_)
      refine lv_aload_n hx hb dX9_bear_26 rfl (lv_at hl 0 rfl) ?_
      refine t_getr cf_1 hx hb hts hown hK hT h_a (k := 10) (P := fun q => τ q = 7) rfl (fun _ h9 => h9) fl_X9_67 (fun _ h9 => h9) dX9_bear_27 (fun q_7 eq_7 hq_7 => ?_)
      have w_8 : q_1 = q_7 := Option.some.inj (eq_1.symm.trans eq_7)
      subst w_8
      refine lv_iload_n hx hb dX9_bear_30 rfl (lv_at hl 1 rfl) ?_
      refine lv_iload_n hx hb dX9_bear_31 rfl (lv_at hl 2 rfl) ?_
      refine t_callv (runV (As := [.ref q_1, .int v0, .int v1]) (rest := []) ⟨hx, hb, hml, hown, hts⟩ (t_X8_layAlone l D cy base τ G q_6 hq_6 q_1 hq_1 v0 v1) sV_X9_170 hK (t_recv cf_3 hK hT hq_6) ⟨Nat.le_trans hZ hS.1, hT⟩ ⟨Nat.le_of_ble_eq_true rfl, Nat.le_of_ble_eq_true rfl⟩ rfl hl.1 rfl (Nat.le_of_ble_eq_true rfl) dX9_bear_32 ⟨Nat.le_of_ble_eq_true rfl, Nat.le_of_ble_eq_true rfl⟩) hS (fun G_9 H locs hF_9 hr_9 hT hS => ?_)
      have hF := hF.tr hF_9 rfl
      refine lv_iconst (v := 0) hx hb dX9_bear_35 (by decide) ?_
      refine lv_istore (lv' := [(4, .int 0), (0, .ref a), (1, .int v0), (2, .int v1), (3, .int v2)]) hx hb dX9_bear_36 hl (by decide) rfl (fun ls hl => ?_)
      refine lv_aload_n hx hb dX9_bear_38 rfl (lv_at hl 1 rfl) ?_
      refine lv_iload_n hx hb dX9_bear_39 rfl (lv_at hl 3 rfl) ?_
      refine lv_iconst (v := 0) hx hb dX9_bear_40 (by decide) ?_
      refine lv_iload_n hx hb dX9_bear_41 rfl (lv_at hl 4 rfl) ?_
      refine pu_calll (runV (As := [.int v1, .int 0, .int v2]) (rest := []) ⟨hx, hb, hml, hown, hts⟩ (t_X9_costOfTwoStores l D cy base τ G_9 a h_a v1 ⟨by omega, by omega⟩ 0 v2) sV_X9_298 hK (t_recv cf_1 hK hT h_a) ⟨Nat.le_trans hZ hS.1, hT⟩ ⟨Nat.le_of_ble_eq_true rfl, Nat.le_of_ble_eq_true rfl⟩ rfl hl.1 rfl (Nat.le_of_ble_eq_true rfl) dX9_bear_42 ⟨Nat.le_of_ble_eq_true rfl, Nat.le_of_ble_eq_true rfl⟩) (fun r_10 hr_10 => ?_)
      refine lv_lstore (lv' := [(5, .long r_10), (4, .int 0), (0, .ref a), (1, .int v0), (2, .int v1), (3, .int v2)]) hx hb dX9_bear_45 hl (by decide) rfl (fun ls hl => ?_)
      refine lv_iconst (v := 1) hx hb dX9_bear_47 (by decide) ?_
      refine lv_istore (lv' := [(7, .int 1), (5, .long r_10), (4, .int 0), (0, .ref a), (1, .int v0), (2, .int v1), (3, .int v2)]) hx hb dX9_bear_48 hl (by decide) rfl (fun ls hl => ?_)
      refine W.loop (σ := Int32 × Int64 × Int32 × Gh) (fun w11 H locs ls => 0 ≤ w11.2.2.1.toInt ∧ w11.2.2.1.toInt ≤ 1000 ∧ Fr τ [3, 32, 36, 37] G w11.2.2.2 ∧ TY D cy base τ w11.2.2.2 H ∧ va_S (RA base) s.heap H locs ∧ lv_has ls 10 [(4, .int w11.1), (5, .long w11.2.1), (7, .int w11.2.2.1), (0, .ref a), (1, .int v0), (2, .int v1), (3, .int v2)]) (fun w11 => (1000 - w11.2.2.1.toInt).toNat) ?_ ((0 : Int32), r_10, (1 : Int32), G_9) _ _ _ ⟨(by show 0 ≤ (1 : Int32).toInt; decide), (by show (1 : Int32).toInt ≤ 1000; decide), hF, hT, hS, lv_sub hl [2, 1, 0, 3, 4, 5, 6] rfl⟩
      intro w11 H locs ls hI ih11
      obtain ⟨x11_4, x11_5, x11_7, G_11⟩ := w11
      obtain ⟨i11_0, i11_1, hF, hT, hS, hl⟩ := hI
      have i11_0 : 0 ≤ x11_7.toInt := i11_0
      have i11_1 : x11_7.toInt ≤ 1000 := i11_1
      have hF : Fr τ [3, 32, 36, 37] G G_11 := hF
      have hT : TY D cy base τ G_11 H := hT
      have hS : va_S (RA base) s.heap H locs := hS
      have hl : lv_has ls 10 [(4, .int x11_4), (5, .long x11_5), (7, .int x11_7), (0, .ref a), (1, .int v0), (2, .int v1), (3, .int v2)] := hl
      refine lv_iload hx hb dX9_bear_50 (lv_at hl 2 rfl) ?_
      refine lv_sipush (v := 999) hx hb dX9_bear_52 (by decide) ?_
      refine lv_icmp_gt (tgt := 90) hx hb dX9_bear_55 (by decide) (fun c_12 => ?_) (fun c_12 => ?_)
      · skip
        have tc_12 : 999 < x11_7.toInt := (fa_lt _ _).mp c_12
        refine lv_iload hx hb dX9_bear_90 (lv_at hl 0 rfl) ?_
        exact ret_i hx hb hr hlocks ⟨⟨hS.1, hS.2.1⟩, G_11, hF, ⟨_, rfl, trivial⟩, hT⟩ hS.2.2 (Nat.le_of_ble_eq_true rfl) (Nat.le_of_ble_eq_true rfl) dX9_bear_92
      · skip
        have tc_12 : ¬ 999 < x11_7.toInt := fun h => c_12 ((fa_lt _ _).mpr h)
        refine lv_aload_n hx hb dX9_bear_58 rfl (lv_at hl 3 rfl) ?_
        refine lv_iload_n hx hb dX9_bear_59 rfl (lv_at hl 5 rfl) ?_
        refine lv_iload hx hb dX9_bear_60 (lv_at hl 2 rfl) ?_
        refine lv_iload_n hx hb dX9_bear_62 rfl (lv_at hl 6 rfl) ?_
        refine pu_calll (runV (As := [.int v1, .int x11_7, .int v2]) (rest := []) ⟨hx, hb, hml, hown, hts⟩ (t_X9_costOfTwoStores l D cy base τ G_11 a h_a v1 ⟨by omega, by omega⟩ x11_7 v2) sV_X9_298 hK (t_recv cf_1 hK hT h_a) ⟨Nat.le_trans hZ hS.1, hT⟩ ⟨Nat.le_of_ble_eq_true rfl, Nat.le_of_ble_eq_true rfl⟩ rfl hl.1 rfl (Nat.le_of_ble_eq_true rfl) dX9_bear_63 ⟨Nat.le_of_ble_eq_true rfl, Nat.le_of_ble_eq_true rfl⟩) (fun r_13 hr_13 => ?_)
        refine lv_lstore (lv' := [(8, .long r_13), (4, .int x11_4), (5, .long x11_5), (7, .int x11_7), (0, .ref a), (1, .int v0), (2, .int v1), (3, .int v2)]) hx hb dX9_bear_66 hl (by decide) rfl (fun ls hl => ?_)
        refine lv_lload hx hb dX9_bear_68 (lv_at hl 0 rfl) ?_
        refine lv_lload hx hb dX9_bear_70 (lv_at hl 2 rfl) ?_
        refine W.lcmp hx hb dX9_bear_72 ?_
        refine lv_topi (fun z_14 ez_14 => ?_)
        have tz_14 : (z_14.toInt < 0 ↔ r_13.toInt < x11_5.toInt) ∧ (0 < z_14.toInt ↔ x11_5.toInt < r_13.toInt) ∧ -1 ≤ z_14.toInt ∧ z_14.toInt ≤ 1 := cmp_t ez_14
        refine lv_if_ge (tgt := 84) hx hb dX9_bear_73 (by decide) (fun c_15 => ?_) (fun c_15 => ?_)
        · skip
          have tc_15 : 0 ≤ z_14.toInt := (fa_le _ _).mp c_15
          obtain ⟨z_16, ez_16⟩ : ∃ y : Int32, y = x11_7 + 1 := ⟨_, rfl⟩
          have tz_16 : z_16.toInt = x11_7.toInt + 1 := add_t ez_16 (show -2147483648 ≤ x11_7.toInt + 1 by omega) (show x11_7.toInt + 1 < 2147483648 by omega)
          refine lv_iinc (v := z_16) (lv' := [(7, .int z_16), (8, .long r_13), (4, .int x11_4), (5, .long x11_5), (0, .ref a), (1, .int v0), (2, .int v1), (3, .int v2)]) hx hb dX9_bear_84 hl (k := 3) rfl (by rw [ez_16]; rfl) (by decide) rfl (fun ls hl => ?_)
          refine lv_goto (tgt := 50) hx hb dX9_bear_87 (by decide) ?_
          exact ih11 (x11_4, x11_5, z_16, G_11) _ _ _ (by show (1000 - z_16.toInt).toNat < (1000 - x11_7.toInt).toNat; omega) ⟨(by show 0 ≤ z_16.toInt; omega), (by show z_16.toInt ≤ 1000; omega), hF, hT, hS, lv_sub hl [2, 3, 0, 4, 5, 6, 7] rfl⟩
        · skip
          have tc_15 : ¬ 0 ≤ z_14.toInt := fun h => c_15 ((fa_le _ _).mpr h)
          refine lv_lload hx hb dX9_bear_76 (lv_at hl 0 rfl) ?_
          refine lv_lstore (lv' := [(5, .long r_13), (8, .long r_13), (4, .int x11_4), (7, .int x11_7), (0, .ref a), (1, .int v0), (2, .int v1), (3, .int v2)]) hx hb dX9_bear_78 hl (by decide) rfl (fun ls hl => ?_)
          refine lv_iload hx hb dX9_bear_80 (lv_at hl 3 rfl) ?_
          refine lv_istore (lv' := [(4, .int x11_7), (5, .long r_13), (8, .long r_13), (7, .int x11_7), (0, .ref a), (1, .int v0), (2, .int v1), (3, .int v2)]) hx hb dX9_bear_82 hl (by decide) rfl (fun ls hl => ?_)
          obtain ⟨z_17, ez_17⟩ : ∃ y : Int32, y = x11_7 + 1 := ⟨_, rfl⟩
          have tz_17 : z_17.toInt = x11_7.toInt + 1 := add_t ez_17 (show -2147483648 ≤ x11_7.toInt + 1 by omega) (show x11_7.toInt + 1 < 2147483648 by omega)
          refine lv_iinc (v := z_17) (lv' := [(7, .int z_17), (4, .int x11_7), (5, .long r_13), (8, .long r_13), (0, .ref a), (1, .int v0), (2, .int v1), (3, .int v2)]) hx hb dX9_bear_84 hl (k := 3) rfl (by rw [ez_17]; rfl) (by decide) rfl (fun ls hl => ?_)
          refine lv_goto (tgt := 50) hx hb dX9_bear_87 (by decide) ?_
          exact ih11 (x11_7, r_13, z_17, G_11) _ _ _ (by show (1000 - z_17.toInt).toNat < (1000 - x11_7.toInt).toNat; omega) ⟨(by show 0 ≤ z_17.toInt; omega), (by show z_17.toInt ≤ 1000; omega), hF, hT, hS, lv_sub hl [1, 2, 0, 4, 5, 6, 7] rfl⟩
    · skip
      have er_4 := hr_4_1
      subst er_4
      refine W.eq (g2 := F0 m 16 ls [.int 0]) rfl ?_
      refine lv_if_ne (tgt := 22) hx hb dX9_bear_16 (by decide) (fun c_18 => absurd rfl c_18) (fun _ => ?_)
      refine lv_bipush (v := (-2)) hx hb dX9_bear_19 (by decide) ?_
      exact ret_i hx hb hr hlocks ⟨⟨hS.1, hS.2.1⟩, G, hF, ⟨_, rfl, trivial⟩, hT⟩ hS.2.2 (Nat.le_of_ble_eq_true rfl) (Nat.le_of_ble_eq_true rfl) dX9_bear_21
  · skip
    have er_2 := hr_2_1
    subst er_2
    refine W.eq (g2 := F0 m 9 ls [.int 0]) rfl ?_
    refine lv_if_eq (tgt := 19) hx hb dX9_bear_9 (by decide) (fun _ => ?_) (fun c_19 => absurd (by decide) c_19)
    refine lv_bipush (v := (-2)) hx hb dX9_bear_19 (by decide) ?_
    exact ret_i hx hb hr hlocks ⟨⟨hS.1, hS.2.1⟩, G, hF, ⟨_, rfl, trivial⟩, hT⟩ hS.2.2 (Nat.le_of_ble_eq_true rfl) (Nat.le_of_ble_eq_true rfl) dX9_bear_21
set_option maxHeartbeats 4000000 in
set_option maxRecDepth 100000 in
theorem t_X9_shut (l : Launch) (D : va_G) (cy : Nat → ClassId) (base : Nat) (τ : Nat → Nat) (G : Gh) (a : Nat) (h_a : τ a = 1) (v0 : Int32) : MM l yX9_shut cX9_shut 2 (some .int) 1 0 0 D cy [.ref a, .int v0] (PT D cy base τ G) (PuI (fun r => True)) noF := by
  refine MM.of (by decide) (Nat.le_of_ble_eq_true rfl) ?_
  intro p e s m below meth c C hPT ls hl
  obtain ⟨hx, hb, hr, hml, hown, hts, hlocks, hK, hnm⟩ := C
  obtain ⟨hZ, hT⟩ := hPT
  have hS : va_S (RA base) s.heap s.heap [] := va_S.rf
  have hl : lv_has ls 2 [(0, .ref a), (1, .int v0)] := hl
  refine lv_aload_n hx hb dX9_shut_0 rfl (lv_at hl 0 rfl) ?_
  refine t_getr cf_1 hx hb hts hown hK hT h_a (k := 10) (P := fun q => τ q = 7) rfl (fun _ h9 => h9) fl_X9_67 (fun _ h9 => h9) dX9_shut_1 (fun q_1 eq_1 hq_1 => ?_)
  refine lv_iload_n hx hb dX9_shut_4 rfl (lv_at hl 1 rfl) ?_
  refine pu_calli (runV (As := [.int v0]) (rest := []) ⟨hx, hb, hml, hown, hts⟩ (t_X2_hasValley l D cy base τ G q_1 hq_1 v0) sV_X9_99 hK (t_recv cf_7 hK hT hq_1) ⟨Nat.le_trans hZ hS.1, hT⟩ ⟨Nat.le_of_ble_eq_true rfl, Nat.le_of_ble_eq_true rfl⟩ rfl hl.1 rfl (Nat.le_of_ble_eq_true rfl) dX9_shut_5 ⟨Nat.le_of_ble_eq_true rfl, Nat.le_of_ble_eq_true rfl⟩) (fun r_2 hr_2 => ?_)
  have hr_2_c := hr_2
  rcases hr_2_c with hr_2_0 | hr_2_1
  · skip
    obtain ⟨er_2, hr_2_0_f0, hr_2_0_f1⟩ := hr_2_0
    have hr_2_0_f0 : 0 ≤ v0.toInt := hr_2_0_f0
    have hr_2_0_f1 : v0.toInt ≤ 5 := hr_2_0_f1
    subst er_2
    refine W.eq (g2 := F0 m 8 ls [.int 1]) rfl ?_
    refine lv_if_ne (tgt := 14) hx hb dX9_shut_8 (by decide) (fun _ => ?_) (fun c_3 => absurd c_3 (by decide))
    refine lv_aload_n hx hb dX9_shut_14 rfl (lv_at hl 0 rfl) ?_
    refine t_getn cf_1 hx hb hts hown hK hT h_a (k := 11) (P := fun q => τ q = 25) rfl (fun _ h9 => h9) fl_X9_93 (fun _ h9 => h9) dX9_shut_15 (fun eq_4 => ?_) (fun q_4 eq_4 hq_4 => ?_)
    · skip
      refine lv_ifnonnullN hx hb dX9_shut_18 ?_
      refine lv_iconst (v := (-1)) hx hb dX9_shut_21 (by decide) ?_
      refine lv_goto (tgt := 31) hx hb dX9_shut_22 (by decide) ?_
      exact ret_i hx hb hr hlocks ⟨rfl, _, rfl, trivial⟩ (fun _ h => absurd h List.not_mem_nil) (Nat.le_refl _) (Nat.le_refl _) dX9_shut_31
    · skip
      refine lv_ifnonnull (tgt := 25) hx hb dX9_shut_18 (by decide) ?_
      refine lv_aload_n hx hb dX9_shut_25 rfl (lv_at hl 0 rfl) ?_
      refine t_getn cf_1 hx hb hts hown hK hT h_a (k := 11) (P := fun q => τ q = 25) rfl (fun _ h9 => h9) fl_X9_93 (fun _ h9 => h9) dX9_shut_26 (fun eq_5 => ?_) (fun q_5 eq_5 hq_5 => ?_)
      · skip
        exact absurd (eq_4.symm.trans eq_5) (by simp)
      · skip
        have w_6 : q_4 = q_5 := Option.some.inj (eq_4.symm.trans eq_5)
        subst w_6
        refine lv_iload_n hx hb dX9_shut_29 rfl (lv_at hl 1 rfl) ?_
        refine t_iald (n := 6) (i := v0) rfl (by decide) hx hb hK hT hq_4 (hT.len hq_4 (by decide)) ⟨by omega, by omega⟩ dX9_shut_30 (fun z_7 ez_7 rz_7 => ?_)
        exact ret_i hx hb hr hlocks ⟨rfl, _, rfl, trivial⟩ (fun _ h => absurd h List.not_mem_nil) (Nat.le_refl _) (Nat.le_refl _) dX9_shut_31
  · skip
    have er_2 := hr_2_1
    subst er_2
    refine W.eq (g2 := F0 m 8 ls [.int 0]) rfl ?_
    refine lv_if_ne (tgt := 14) hx hb dX9_shut_8 (by decide) (fun c_8 => absurd rfl c_8) (fun _ => ?_)
    refine lv_bipush (v := (-2)) hx hb dX9_shut_11 (by decide) ?_
    exact ret_i hx hb hr hlocks ⟨rfl, _, rfl, trivial⟩ (fun _ h => absurd h List.not_mem_nil) (Nat.le_refl _) (Nat.le_refl _) dX9_shut_13
set_option maxHeartbeats 4000000 in
set_option maxRecDepth 100000 in
theorem t_X9_lacks (l : Launch) (D : va_G) (cy : Nat → ClassId) (base : Nat) (τ : Nat → Nat) (G : Gh) (a : Nat) (h_a : τ a = 1) (v0 : Int32) (v1 : Int32) (v2 : Int32) (v3 : Int32) : MM l yX9_lacks cX9_lacks 7 (some .int) 3 0 0 D cy [.ref a, .int v0, .int v1, .int v2, .int v3] (PT D cy base τ G) (PuI (fun r => True)) noF := by
  refine MM.of (by decide) (Nat.le_of_ble_eq_true rfl) ?_
  intro p e s m below meth c C hPT ls hl
  obtain ⟨hx, hb, hr, hml, hown, hts, hlocks, hK, hnm⟩ := C
  obtain ⟨hZ, hT⟩ := hPT
  have hS : va_S (RA base) s.heap s.heap [] := va_S.rf
  have hl : lv_has ls 7 [(0, .ref a), (1, .int v0), (2, .int v1), (3, .int v2), (4, .int v3)] := hl
  refine lv_aload_n hx hb dX9_lacks_0 rfl (lv_at hl 0 rfl) ?_
  refine t_getr cf_1 hx hb hts hown hK hT h_a (k := 10) (P := fun q => τ q = 7) rfl (fun _ h9 => h9) fl_X9_67 (fun _ h9 => h9) dX9_lacks_1 (fun q_1 eq_1 hq_1 => ?_)
  refine lv_iload_n hx hb dX9_lacks_4 rfl (lv_at hl 1 rfl) ?_
  refine lv_iload_n hx hb dX9_lacks_5 rfl (lv_at hl 2 rfl) ?_
  refine pu_calli (runV (As := [.int v0, .int v1]) (rest := []) ⟨hx, hb, hml, hown, hts⟩ (t_X2_hasStore l D cy base τ G q_1 hq_1 v0 v1) sV_X9_160 hK (t_recv cf_7 hK hT hq_1) ⟨Nat.le_trans hZ hS.1, hT⟩ ⟨Nat.le_of_ble_eq_true rfl, Nat.le_of_ble_eq_true rfl⟩ rfl hl.1 rfl (Nat.le_of_ble_eq_true rfl) dX9_lacks_6 ⟨Nat.le_of_ble_eq_true rfl, Nat.le_of_ble_eq_true rfl⟩) (fun r_2 hr_2 => ?_)
  have hr_2_c := hr_2
  rcases hr_2_c with hr_2_0 | hr_2_1
  · skip
    obtain ⟨er_2, hr_2_0_f0, hr_2_0_f1, hr_2_0_f2, hr_2_0_f3⟩ := hr_2_0
    have hr_2_0_f0 : 0 ≤ v0.toInt := hr_2_0_f0
    have hr_2_0_f1 : v0.toInt ≤ 5 := hr_2_0_f1
    have hr_2_0_f2 : 0 ≤ v1.toInt := hr_2_0_f2
    have hr_2_0_f3 : v1.toInt ≤ 2 := hr_2_0_f3
    subst er_2
    refine W.eq (g2 := F0 m 9 ls [.int 1]) rfl ?_
    refine lv_if_eq (tgt := 30) hx hb dX9_lacks_9 (by decide) (fun c_3 => absurd c_3 (by decide)) (fun _ => ?_)
    refine lv_iload_n hx hb dX9_lacks_12 rfl (lv_at hl 3 rfl) ?_
    refine pu_calli (runS (As := [.int v2]) (rest := []) ⟨hx, hb, hml, hown, hts⟩ (t_X9_isSacks l D cy base τ G v2) sS_X9_167 hK ⟨Nat.le_trans hZ hS.1, hT⟩ ⟨Nat.le_of_ble_eq_true rfl, Nat.le_of_ble_eq_true rfl⟩ rfl hl.1 rfl (Nat.le_of_ble_eq_true rfl) dX9_lacks_13 ⟨Nat.le_of_ble_eq_true rfl, Nat.le_of_ble_eq_true rfl⟩) (fun r_4 hr_4 => ?_)
    have hr_4_c := hr_4
    rcases hr_4_c with hr_4_0 | hr_4_1
    · skip
      obtain ⟨er_4, hr_4_0_f0, hr_4_0_f1⟩ := hr_4_0
      have hr_4_0_f0 : 0 ≤ v2.toInt := hr_4_0_f0
      have hr_4_0_f1 : v2.toInt ≤ 999 := hr_4_0_f1
      subst er_4
      refine W.eq (g2 := F0 m 16 ls [.int 1]) rfl ?_
      refine lv_if_eq (tgt := 30) hx hb dX9_lacks_16 (by decide) (fun c_5 => absurd c_5 (by decide)) (fun _ => ?_)
      refine lv_iload hx hb dX9_lacks_19 (lv_at hl 4 rfl) ?_
      refine lv_if_lt (tgt := 30) hx hb dX9_lacks_21 (by decide) (fun c_6 => ?_) (fun c_6 => ?_)
      · skip
        have tc_6 : v3.toInt < 0 := (fa_lt _ _).mp c_6
        refine lv_bipush (v := (-2)) hx hb dX9_lacks_30 (by decide) ?_
        exact ret_i hx hb hr hlocks ⟨rfl, _, rfl, trivial⟩ (fun _ h => absurd h List.not_mem_nil) (Nat.le_refl _) (Nat.le_refl _) dX9_lacks_32
      · skip
        have tc_6 : ¬ v3.toInt < 0 := fun h => c_6 ((fa_lt _ _).mpr h)
        refine lv_iload hx hb dX9_lacks_24 (lv_at hl 4 rfl) ?_
        refine lv_iconst (v := 2) hx hb dX9_lacks_26 (by decide) ?_
        refine lv_icmp_le (tgt := 33) hx hb dX9_lacks_27 (by decide) (fun c_7 => ?_) (fun c_7 => ?_)
        · skip
          have tc_7 : v3.toInt ≤ 2 := (fa_le _ _).mp c_7
          refine lv_aload_n hx hb dX9_lacks_33 rfl (lv_at hl 0 rfl) ?_
          refine t_getn cf_1 hx hb hts hown hK hT h_a (k := 11) (P := fun q => τ q = 25) rfl (fun _ h9 => h9) fl_X9_93 (fun _ h9 => h9) dX9_lacks_34 (fun eq_8 => ?_) (fun q_8 eq_8 hq_8 => ?_)
          · skip
            refine lv_ifnonnullN hx hb dX9_lacks_37 ?_
            refine lv_iconst (v := (-1)) hx hb dX9_lacks_40 (by decide) ?_
            exact ret_i hx hb hr hlocks ⟨rfl, _, rfl, trivial⟩ (fun _ h => absurd h List.not_mem_nil) (Nat.le_refl _) (Nat.le_refl _) dX9_lacks_41
          · skip
            refine lv_ifnonnull (tgt := 42) hx hb dX9_lacks_37 (by decide) ?_
            refine lv_aload_n hx hb dX9_lacks_42 rfl (lv_at hl 0 rfl) ?_
            refine t_getn cf_1 hx hb hts hown hK hT h_a (k := 11) (P := fun q => τ q = 25) rfl (fun _ h9 => h9) fl_X9_93 (fun _ h9 => h9) dX9_lacks_43 (fun eq_9 => ?_) (fun q_9 eq_9 hq_9 => ?_)
            · skip
              exact absurd (eq_8.symm.trans eq_9) (by simp)
            · skip
              have w_10 : q_8 = q_9 := Option.some.inj (eq_8.symm.trans eq_9)
              subst w_10
              refine lv_iload_n hx hb dX9_lacks_46 rfl (lv_at hl 1 rfl) ?_
              refine t_iald (n := 6) (i := v0) rfl (by decide) hx hb hK hT hq_8 (hT.len hq_8 (by decide)) ⟨by omega, by omega⟩ dX9_lacks_47 (fun z_11 ez_11 rz_11 => ?_)
              refine lv_istore (lv' := [(5, .int z_11), (0, .ref a), (1, .int v0), (2, .int v1), (3, .int v2), (4, .int v3)]) hx hb dX9_lacks_48 hl (by decide) rfl (fun ls hl => ?_)
              refine lv_aload_n hx hb dX9_lacks_50 rfl (lv_at hl 1 rfl) ?_
              refine t_getr cf_1 hx hb hts hown hK hT h_a (k := 10) (P := fun q => τ q = 7) rfl (fun _ h9 => h9) fl_X9_67 (fun _ h9 => h9) dX9_lacks_51 (fun q_12 eq_12 hq_12 => ?_)
              have w_13 : q_1 = q_12 := Option.some.inj (eq_1.symm.trans eq_12)
              subst w_13
              refine lv_iload_n hx hb dX9_lacks_54 rfl (lv_at hl 2 rfl) ?_
              refine lv_iload_n hx hb dX9_lacks_55 rfl (lv_at hl 3 rfl) ?_
              refine lv_iload hx hb dX9_lacks_56 (lv_at hl 0 rfl) ?_
              refine pu_calli (runV (As := [.int v0, .int v1, .int z_11]) (rest := []) ⟨hx, hb, hml, hown, hts⟩ (t_X2_wanted l D cy base τ G q_1 hq_1 v0 v1 z_11) sV_X9_163 hK (t_recv cf_7 hK hT hq_1) ⟨Nat.le_trans hZ hS.1, hT⟩ ⟨Nat.le_of_ble_eq_true rfl, Nat.le_of_ble_eq_true rfl⟩ rfl hl.1 rfl (Nat.le_of_ble_eq_true rfl) dX9_lacks_58 ⟨Nat.le_of_ble_eq_true rfl, Nat.le_of_ble_eq_true rfl⟩) (fun r_14 hr_14 => ?_)
              refine lv_istore (lv' := [(6, .int r_14), (5, .int z_11), (0, .ref a), (1, .int v0), (2, .int v1), (3, .int v2), (4, .int v3)]) hx hb dX9_lacks_61 hl (by decide) rfl (fun ls hl => ?_)
              refine lv_iload hx hb dX9_lacks_63 (lv_at hl 6 rfl) ?_
              refine lv_if_ne (tgt := 77) hx hb dX9_lacks_65 (by decide) (fun c_15 => ?_) (fun c_15 => ?_)
              · skip
                have tc_15 : ¬ v3.toInt = 0 := fun h => c_15 ((fa_eq _ _).mpr h)
                refine lv_iload hx hb dX9_lacks_77 (lv_at hl 6 rfl) ?_
                refine lv_iconst (v := 1) hx hb dX9_lacks_79 (by decide) ?_
                refine lv_icmp_ne (tgt := 92) hx hb dX9_lacks_80 (by decide) (fun c_16 => ?_) (fun c_16 => ?_)
                · skip
                  have tc_16 : ¬ v3.toInt = 1 := fun h => c_16 ((fa_eq _ _).mpr h)
                  refine lv_aload_n hx hb dX9_lacks_92 rfl (lv_at hl 2 rfl) ?_
                  refine t_getr cf_1 hx hb hts hown hK hT h_a (k := 10) (P := fun q => τ q = 7) rfl (fun _ h9 => h9) fl_X9_67 (fun _ h9 => h9) dX9_lacks_93 (fun q_17 eq_17 hq_17 => ?_)
                  have w_18 : q_1 = q_17 := Option.some.inj (eq_1.symm.trans eq_17)
                  subst w_18
                  refine lv_iload_n hx hb dX9_lacks_96 rfl (lv_at hl 3 rfl) ?_
                  refine lv_iload_n hx hb dX9_lacks_97 rfl (lv_at hl 4 rfl) ?_
                  refine lv_iload hx hb dX9_lacks_98 (lv_at hl 1 rfl) ?_
                  refine lv_iload_n hx hb dX9_lacks_100 rfl (lv_at hl 5 rfl) ?_
                  refine pu_calli (runV (As := [.int v0, .int v1, .int z_11, .int v2]) (rest := []) ⟨hx, hb, hml, hown, hts⟩ (t_X2_firstLacking l D cy base τ G q_1 hq_1 v0 v1 z_11 v2 ⟨by omega, by omega⟩) sV_X9_330 hK (t_recv cf_7 hK hT hq_1) ⟨Nat.le_trans hZ hS.1, hT⟩ ⟨Nat.le_of_ble_eq_true rfl, Nat.le_of_ble_eq_true rfl⟩ rfl hl.1 rfl (Nat.le_of_ble_eq_true rfl) dX9_lacks_101 ⟨Nat.le_of_ble_eq_true rfl, Nat.le_of_ble_eq_true rfl⟩) (fun r_19 hr_19 => ?_)
                  exact ret_i hx hb hr hlocks ⟨rfl, _, rfl, trivial⟩ (fun _ h => absurd h List.not_mem_nil) (Nat.le_refl _) (Nat.le_refl _) dX9_lacks_104
                · skip
                  have tc_16 : v3.toInt = 1 := (fa_eq _ _).mp c_16
                  refine lv_iconst (v := 0) hx hb dX9_lacks_83 (by decide) ?_
                  refine lv_iload_n hx hb dX9_lacks_84 rfl (lv_at hl 5 rfl) ?_
                  refine lv_iload hx hb dX9_lacks_85 (lv_at hl 0 rfl) ?_
                  refine lv_isub hx hb dX9_lacks_87 ?_
                  refine lv_topi (fun z_20 ez_20 => ?_)
                  refine va_mmax hx hb (by rw [hml]; exact hl.1.symm) hown (hts _ ml_X9_327) (hts _ st_math_max) (hts _ ini_J9) (hts _ co_math_max) (Nat.le_of_ble_eq_true rfl) (Nat.le_of_ble_eq_true rfl) (Nat.le_of_ble_eq_true rfl) (Nat.le_of_ble_eq_true rfl) dX9_lacks_88 ?_
                  refine lv_topi (fun z_21 ez_21 => ?_)
                  have tz_21 : (0 ≤ z_21.toInt ∧ z_20.toInt ≤ z_21.toInt ∧ (z_21.toInt = 0 ∨ z_21.toInt = z_20.toInt)) := mmax_t ez_21
                  exact ret_i hx hb hr hlocks ⟨rfl, _, rfl, trivial⟩ (fun _ h => absurd h List.not_mem_nil) (Nat.le_refl _) (Nat.le_refl _) dX9_lacks_91
              · skip
                have tc_15 : v3.toInt = 0 := (fa_eq _ _).mp c_15
                refine lv_iconst (v := 0) hx hb dX9_lacks_68 (by decide) ?_
                refine lv_iload hx hb dX9_lacks_69 (lv_at hl 0 rfl) ?_
                refine lv_iload_n hx hb dX9_lacks_71 rfl (lv_at hl 5 rfl) ?_
                refine lv_isub hx hb dX9_lacks_72 ?_
                refine lv_topi (fun z_22 ez_22 => ?_)
                refine va_mmax hx hb (by rw [hml]; exact hl.1.symm) hown (hts _ ml_X9_327) (hts _ st_math_max) (hts _ ini_J9) (hts _ co_math_max) (Nat.le_of_ble_eq_true rfl) (Nat.le_of_ble_eq_true rfl) (Nat.le_of_ble_eq_true rfl) (Nat.le_of_ble_eq_true rfl) dX9_lacks_73 ?_
                refine lv_topi (fun z_23 ez_23 => ?_)
                have tz_23 : (0 ≤ z_23.toInt ∧ z_22.toInt ≤ z_23.toInt ∧ (z_23.toInt = 0 ∨ z_23.toInt = z_22.toInt)) := mmax_t ez_23
                exact ret_i hx hb hr hlocks ⟨rfl, _, rfl, trivial⟩ (fun _ h => absurd h List.not_mem_nil) (Nat.le_refl _) (Nat.le_refl _) dX9_lacks_76
        · skip
          have tc_7 : ¬ v3.toInt ≤ 2 := fun h => c_7 ((fa_le _ _).mpr h)
          have mc_7 : v3.toInt ≤ 2147483647 := max_t v3
          refine lv_bipush (v := (-2)) hx hb dX9_lacks_30 (by decide) ?_
          exact ret_i hx hb hr hlocks ⟨rfl, _, rfl, trivial⟩ (fun _ h => absurd h List.not_mem_nil) (Nat.le_refl _) (Nat.le_refl _) dX9_lacks_32
    · skip
      have er_4 := hr_4_1
      subst er_4
      refine W.eq (g2 := F0 m 16 ls [.int 0]) rfl ?_
      refine lv_if_eq (tgt := 30) hx hb dX9_lacks_16 (by decide) (fun _ => ?_) (fun c_24 => absurd (by decide) c_24)
      refine lv_bipush (v := (-2)) hx hb dX9_lacks_30 (by decide) ?_
      exact ret_i hx hb hr hlocks ⟨rfl, _, rfl, trivial⟩ (fun _ h => absurd h List.not_mem_nil) (Nat.le_refl _) (Nat.le_refl _) dX9_lacks_32
  · skip
    have er_2 := hr_2_1
    subst er_2
    refine W.eq (g2 := F0 m 9 ls [.int 0]) rfl ?_
    refine lv_if_eq (tgt := 30) hx hb dX9_lacks_9 (by decide) (fun _ => ?_) (fun c_25 => absurd (by decide) c_25)
    refine lv_bipush (v := (-2)) hx hb dX9_lacks_30 (by decide) ?_
    exact ret_i hx hb hr hlocks ⟨rfl, _, rfl, trivial⟩ (fun _ h => absurd h List.not_mem_nil) (Nat.le_refl _) (Nat.le_refl _) dX9_lacks_32
set_option maxHeartbeats 4000000 in
set_option maxRecDepth 100000 in
theorem t_X9_judge (l : Launch) (D : va_G) (cy : Nat → ClassId) (base : Nat) (τ : Nat → Nat) (G : Gh) (a : Nat) (h_a : τ a = 1) (v0 : Int32) (v1 : Int32) : MM l yX9_judge cX9_judge 4 (some .int) 1 0 0 D cy [.ref a, .int v0, .int v1] (PT D cy base τ G) (PuI (fun r => True)) noF := by
  refine MM.of (by decide) (Nat.le_of_ble_eq_true rfl) ?_
  intro p e s m below meth c C hPT ls hl
  obtain ⟨hx, hb, hr, hml, hown, hts, hlocks, hK, hnm⟩ := C
  obtain ⟨hZ, hT⟩ := hPT
  have hS : va_S (RA base) s.heap s.heap [] := va_S.rf
  have hl : lv_has ls 4 [(0, .ref a), (1, .int v0), (2, .int v1)] := hl
  refine lv_iload_n hx hb dX9_judge_0 rfl (lv_at hl 1 rfl) ?_
  refine pu_calli (runS (As := [.int v0]) (rest := []) ⟨hx, hb, hml, hown, hts⟩ (t_X9_isSlot l D cy base τ G v0) sS_X9_312 hK ⟨Nat.le_trans hZ hS.1, hT⟩ ⟨Nat.le_of_ble_eq_true rfl, Nat.le_of_ble_eq_true rfl⟩ rfl hl.1 rfl (Nat.le_of_ble_eq_true rfl) dX9_judge_1 ⟨Nat.le_of_ble_eq_true rfl, Nat.le_of_ble_eq_true rfl⟩) (fun r_1 hr_1 => ?_)
  have hr_1_c := hr_1
  rcases hr_1_c with hr_1_0 | hr_1_1
  · skip
    obtain ⟨er_1, hr_1_0_f0, hr_1_0_f1⟩ := hr_1_0
    have hr_1_0_f0 : 0 ≤ v0.toInt := hr_1_0_f0
    have hr_1_0_f1 : v0.toInt ≤ 3 := hr_1_0_f1
    subst er_1
    refine W.eq (g2 := F0 m 4 ls [.int 1]) rfl ?_
    refine lv_if_eq (tgt := 18) hx hb dX9_judge_4 (by decide) (fun c_2 => absurd c_2 (by decide)) (fun _ => ?_)
    refine lv_aload_n hx hb dX9_judge_7 rfl (lv_at hl 0 rfl) ?_
    refine t_getr cf_1 hx hb hts hown hK hT h_a (k := 10) (P := fun q => τ q = 7) rfl (fun _ h9 => h9) fl_X9_67 (fun _ h9 => h9) dX9_judge_8 (fun q_3 eq_3 hq_3 => ?_)
    refine lv_iload_n hx hb dX9_judge_11 rfl (lv_at hl 2 rfl) ?_
    refine pu_calli (runV (As := [.int v1]) (rest := []) ⟨hx, hb, hml, hown, hts⟩ (t_X2_hasValley l D cy base τ G q_3 hq_3 v1) sV_X9_99 hK (t_recv cf_7 hK hT hq_3) ⟨Nat.le_trans hZ hS.1, hT⟩ ⟨Nat.le_of_ble_eq_true rfl, Nat.le_of_ble_eq_true rfl⟩ rfl hl.1 rfl (Nat.le_of_ble_eq_true rfl) dX9_judge_12 ⟨Nat.le_of_ble_eq_true rfl, Nat.le_of_ble_eq_true rfl⟩) (fun r_4 hr_4 => ?_)
    have hr_4_c := hr_4
    rcases hr_4_c with hr_4_0 | hr_4_1
    · skip
      obtain ⟨er_4, hr_4_0_f0, hr_4_0_f1⟩ := hr_4_0
      have hr_4_0_f0 : 0 ≤ v1.toInt := hr_4_0_f0
      have hr_4_0_f1 : v1.toInt ≤ 5 := hr_4_0_f1
      subst er_4
      refine W.eq (g2 := F0 m 15 ls [.int 1]) rfl ?_
      refine lv_if_ne (tgt := 21) hx hb dX9_judge_15 (by decide) (fun _ => ?_) (fun c_5 => absurd c_5 (by decide))
      refine lv_aload_n hx hb dX9_judge_21 rfl (lv_at hl 0 rfl) ?_
      refine t_getn cf_1 hx hb hts hown hK hT h_a (k := 11) (P := fun q => τ q = 25) rfl (fun _ h9 => h9) fl_X9_93 (fun _ h9 => h9) dX9_judge_22 (fun eq_6 => ?_) (fun q_6 eq_6 hq_6 => ?_)
      · skip
        refine lv_ifnonnullN hx hb dX9_judge_25 ?_
        refine lv_iconst (v := (-1)) hx hb dX9_judge_28 (by decide) ?_
        exact ret_i hx hb hr hlocks ⟨rfl, _, rfl, trivial⟩ (fun _ h => absurd h List.not_mem_nil) (Nat.le_refl _) (Nat.le_refl _) dX9_judge_29
      · skip
        refine lv_ifnonnull (tgt := 30) hx hb dX9_judge_25 (by decide) ?_
        refine lv_aload_n hx hb dX9_judge_30 rfl (lv_at hl 0 rfl) ?_
        refine t_getr cf_1 hx hb hts hown hK hT h_a (k := 7) (P := fun q => τ q = 23) rfl (fun _ h9 => h9) fl_X9_54 (fun _ h9 => h9) dX9_judge_31 (fun q_7 eq_7 hq_7 => ?_)
        refine lv_iload_n hx hb dX9_judge_34 rfl (lv_at hl 1 rfl) ?_
        refine t_aald4 (n := 4) (i := v0) (P := fun q => τ q = 9) rfl (by decide) hx hb hK hT hq_7 (hT.len hq_7 (by decide)) ⟨by omega, by omega⟩ (fun _ _ h9 => h9) dX9_judge_35 (fun eq_8 => ?_) (fun q_8 eq_8 hq_8 => ?_)
        · skip
          refine lv_astore_nN (lv' := [(3, .null), (0, .ref a), (1, .int v0), (2, .int v1)]) hx hb dX9_judge_36 rfl hl (by decide) rfl (fun ls hl => ?_)
          refine lv_aload_nN hx hb dX9_judge_37 rfl (lv_at hl 0 rfl) ?_
          refine lv_ifnonnullN hx hb dX9_judge_38 ?_
          refine lv_bipush (v := (-6)) hx hb dX9_judge_41 (by decide) ?_
          exact ret_i hx hb hr hlocks ⟨rfl, _, rfl, trivial⟩ (fun _ h => absurd h List.not_mem_nil) (Nat.le_refl _) (Nat.le_refl _) dX9_judge_43
        · skip
          refine lv_astore_n (lv' := [(3, .ref q_8), (0, .ref a), (1, .int v0), (2, .int v1)]) hx hb dX9_judge_36 rfl hl (by decide) rfl (fun ls hl => ?_)
          refine lv_aload_n hx hb dX9_judge_37 rfl (lv_at hl 0 rfl) ?_
          refine lv_ifnonnull (tgt := 44) hx hb dX9_judge_38 (by decide) ?_
          refine lv_aload_n hx hb dX9_judge_44 rfl (lv_at hl 0 rfl) ?_
          refine t_getr cf_9 hx hb hts hown hK hT hq_8 (k := 1) (P := fun q => τ q = 40) rfl (fun _ h9 => h9) fl_X9_315 (fun _ h9 => h9) dX9_judge_45 (fun q_9 eq_9 hq_9 => ?_)
          obtain ⟨n_10, en_10⟩ : ∃ y : Nat, y = G.2.2.2 q_9 := ⟨_, rfl⟩
          have rn_10 : n_10 ≤ 60 := by rw [en_10]; exact hT.len hq_9 (by decide)
          refine t_alen (v := Int32.ofNat n_10) rfl (by decide) hx hb hK hT hq_9 rfl (by rw [show _ = n_10 from (en_10.symm)]) dX9_judge_48 ?_
          refine lv_topi (fun z_11 ez_11 => ?_)
          have tz_11 : z_11.toInt = n_10 := len_t ez_11 (by omega)
          refine lv_aload_n hx hb dX9_judge_49 rfl (lv_at hl 1 rfl) ?_
          refine t_getr cf_1 hx hb hts hown hK hT h_a (k := 10) (P := fun q => τ q = 7) rfl (fun _ h9 => h9) fl_X9_67 (fun _ h9 => h9) dX9_judge_50 (fun q_12 eq_12 hq_12 => ?_)
          have w_13 : q_3 = q_12 := Option.some.inj (eq_3.symm.trans eq_12)
          subst w_13
          refine t_geti cf_7 hx hb hts hown hK hT hq_3 (k := 1) rfl fl_X9_155 (fun _ h9 => h9) dX9_judge_53 (fun z_14 ez_14 rz_14 => ?_)
          have ez_14 : z_14 = G.1 q_3 1 := ez_14
          have rz_14 : 0 ≤ z_14.toInt ∧ z_14.toInt ≤ 60 := rz_14
          refine lv_icmp_le (tgt := 62) hx hb dX9_judge_56 (by decide) (fun c_15 => ?_) (fun c_15 => ?_)
          · skip
            have tc_15 : z_11.toInt ≤ z_14.toInt := (fa_le _ _).mp c_15
            refine lv_aload_n hx hb dX9_judge_62 rfl (lv_at hl 1 rfl) ?_
            refine t_getr cf_1 hx hb hts hown hK hT h_a (k := 10) (P := fun q => τ q = 7) rfl (fun _ h9 => h9) fl_X9_67 (fun _ h9 => h9) dX9_judge_63 (fun q_16 eq_16 hq_16 => ?_)
            have w_17 : q_3 = q_16 := Option.some.inj (eq_3.symm.trans eq_16)
            subst w_17
            refine lv_aload_n hx hb dX9_judge_66 rfl (lv_at hl 0 rfl) ?_
            refine t_getr cf_9 hx hb hts hown hK hT hq_8 (k := 1) (P := fun q => τ q = 40) rfl (fun _ h9 => h9) fl_X9_315 (fun _ h9 => h9) dX9_judge_67 (fun q_18 eq_18 hq_18 => ?_)
            have w_19 : q_9 = q_18 := Option.some.inj (eq_9.symm.trans eq_18)
            subst w_19
            refine lv_aload_n hx hb dX9_judge_70 rfl (lv_at hl 1 rfl) ?_
            refine t_getn cf_1 hx hb hts hown hK hT h_a (k := 11) (P := fun q => τ q = 25) rfl (fun _ h9 => h9) fl_X9_93 (fun _ h9 => h9) dX9_judge_71 (fun eq_20 => ?_) (fun q_20 eq_20 hq_20 => ?_)
            · skip
              exact absurd (eq_6.symm.trans eq_20) (by simp)
            · skip
              have w_21 : q_6 = q_20 := Option.some.inj (eq_6.symm.trans eq_20)
              subst w_21
              refine lv_iload_n hx hb dX9_judge_74 rfl (lv_at hl 3 rfl) ?_
              refine t_iald (n := 6) (i := v1) rfl (by decide) hx hb hK hT hq_6 (hT.len hq_6 (by decide)) ⟨by omega, by omega⟩ dX9_judge_75 (fun z_22 ez_22 rz_22 => ?_)
              refine pu_calli (runV (As := [.ref q_9, .int z_22]) (rest := []) ⟨hx, hb, hml, hown, hts⟩ (t_X2_firstWrong l D cy base τ G q_3 hq_3 q_9 hq_9 z_22) sV_X9_333 hK (t_recv cf_7 hK hT hq_3) ⟨Nat.le_trans hZ hS.1, hT⟩ ⟨Nat.le_of_ble_eq_true rfl, Nat.le_of_ble_eq_true rfl⟩ rfl hl.1 rfl (Nat.le_of_ble_eq_true rfl) dX9_judge_76 ⟨Nat.le_of_ble_eq_true rfl, Nat.le_of_ble_eq_true rfl⟩) (fun r_23 hr_23 => ?_)
              exact ret_i hx hb hr hlocks ⟨rfl, _, rfl, trivial⟩ (fun _ h => absurd h List.not_mem_nil) (Nat.le_refl _) (Nat.le_refl _) dX9_judge_79
          · skip
            have tc_15 : ¬ z_11.toInt ≤ z_14.toInt := fun h => c_15 ((fa_le _ _).mpr h)
            refine lv_bipush (v := (-2)) hx hb dX9_judge_59 (by decide) ?_
            exact ret_i hx hb hr hlocks ⟨rfl, _, rfl, trivial⟩ (fun _ h => absurd h List.not_mem_nil) (Nat.le_refl _) (Nat.le_refl _) dX9_judge_61
    · skip
      have er_4 := hr_4_1
      subst er_4
      refine W.eq (g2 := F0 m 15 ls [.int 0]) rfl ?_
      refine lv_if_ne (tgt := 21) hx hb dX9_judge_15 (by decide) (fun c_24 => absurd rfl c_24) (fun _ => ?_)
      refine lv_bipush (v := (-2)) hx hb dX9_judge_18 (by decide) ?_
      exact ret_i hx hb hr hlocks ⟨rfl, _, rfl, trivial⟩ (fun _ h => absurd h List.not_mem_nil) (Nat.le_refl _) (Nat.le_refl _) dX9_judge_20
  · skip
    have er_1 := hr_1_1
    subst er_1
    refine W.eq (g2 := F0 m 4 ls [.int 0]) rfl ?_
    refine lv_if_eq (tgt := 18) hx hb dX9_judge_4 (by decide) (fun _ => ?_) (fun c_25 => absurd (by decide) c_25)
    refine lv_bipush (v := (-2)) hx hb dX9_judge_18 (by decide) ?_
    exact ret_i hx hb hr hlocks ⟨rfl, _, rfl, trivial⟩ (fun _ h => absurd h List.not_mem_nil) (Nat.le_refl _) (Nat.le_refl _) dX9_judge_20
set_option maxHeartbeats 4000000 in
set_option maxRecDepth 100000 in
theorem t_X9_paid (l : Launch) (D : va_G) (cy : Nat → ClassId) (base : Nat) (τ : Nat → Nat) (G : Gh) (a : Nat) (h_a : τ a = 1) (v0 : Int32) (v1 : Int32) (v2 : Int32) : MM l yX9_paid cX9_paid 15 (some .long) 2 0 0 D cy [.ref a, .int v0, .int v1, .int v2] (PT D cy base τ G) (PuL (fun r => True)) noF := by
  refine MM.of (by decide) (Nat.le_of_ble_eq_true rfl) ?_
  intro p e s m below meth c C hPT ls hl
  obtain ⟨hx, hb, hr, hml, hown, hts, hlocks, hK, hnm⟩ := C
  obtain ⟨hZ, hT⟩ := hPT
  have hS : va_S (RA base) s.heap s.heap [] := va_S.rf
  have hl : lv_has ls 15 [(0, .ref a), (1, .int v0), (2, .int v1), (3, .int v2)] := hl
  refine lv_iload_n hx hb dX9_paid_0 rfl (lv_at hl 1 rfl) ?_
  refine pu_calli (runS (As := [.int v0]) (rest := []) ⟨hx, hb, hml, hown, hts⟩ (t_X9_isSlot l D cy base τ G v0) sS_X9_312 hK ⟨Nat.le_trans hZ hS.1, hT⟩ ⟨Nat.le_of_ble_eq_true rfl, Nat.le_of_ble_eq_true rfl⟩ rfl hl.1 rfl (Nat.le_of_ble_eq_true rfl) dX9_paid_1 ⟨Nat.le_of_ble_eq_true rfl, Nat.le_of_ble_eq_true rfl⟩) (fun r_1 hr_1 => ?_)
  have hr_1_c := hr_1
  rcases hr_1_c with hr_1_0 | hr_1_1
  · skip
    obtain ⟨er_1, hr_1_0_f0, hr_1_0_f1⟩ := hr_1_0
    have hr_1_0_f0 : 0 ≤ v0.toInt := hr_1_0_f0
    have hr_1_0_f1 : v0.toInt ≤ 3 := hr_1_0_f1
    subst er_1
    refine W.eq (g2 := F0 m 4 ls [.int 1]) rfl ?_
    refine lv_if_eq (tgt := 26) hx hb dX9_paid_4 (by decide) (fun c_2 => absurd c_2 (by decide)) (fun _ => ?_)
    refine lv_aload_n hx hb dX9_paid_7 rfl (lv_at hl 0 rfl) ?_
    refine t_getr cf_1 hx hb hts hown hK hT h_a (k := 10) (P := fun q => τ q = 7) rfl (fun _ h9 => h9) fl_X9_67 (fun _ h9 => h9) dX9_paid_8 (fun q_3 eq_3 hq_3 => ?_)
    refine lv_iload_n hx hb dX9_paid_11 rfl (lv_at hl 2 rfl) ?_
    refine lv_iload_n hx hb dX9_paid_12 rfl (lv_at hl 3 rfl) ?_
    refine pu_calli (runV (As := [.int v1, .int v2]) (rest := []) ⟨hx, hb, hml, hown, hts⟩ (t_X2_hasStore l D cy base τ G q_3 hq_3 v1 v2) sV_X9_160 hK (t_recv cf_7 hK hT hq_3) ⟨Nat.le_trans hZ hS.1, hT⟩ ⟨Nat.le_of_ble_eq_true rfl, Nat.le_of_ble_eq_true rfl⟩ rfl hl.1 rfl (Nat.le_of_ble_eq_true rfl) dX9_paid_13 ⟨Nat.le_of_ble_eq_true rfl, Nat.le_of_ble_eq_true rfl⟩) (fun r_4 hr_4 => ?_)
    have hr_4_c := hr_4
    rcases hr_4_c with hr_4_0 | hr_4_1
    · skip
      obtain ⟨er_4, hr_4_0_f0, hr_4_0_f1, hr_4_0_f2, hr_4_0_f3⟩ := hr_4_0
      have hr_4_0_f0 : 0 ≤ v1.toInt := hr_4_0_f0
      have hr_4_0_f1 : v1.toInt ≤ 5 := hr_4_0_f1
      have hr_4_0_f2 : 0 ≤ v2.toInt := hr_4_0_f2
      have hr_4_0_f3 : v2.toInt ≤ 2 := hr_4_0_f3
      subst er_4
      refine W.eq (g2 := F0 m 16 ls [.int 1]) rfl ?_
      refine lv_if_eq (tgt := 26) hx hb dX9_paid_16 (by decide) (fun c_5 => absurd c_5 (by decide)) (fun _ => ?_)
      refine lv_aload_n hx hb dX9_paid_19 rfl (lv_at hl 0 rfl) ?_
      refine t_getn cf_1 hx hb hts hown hK hT h_a (k := 11) (P := fun q => τ q = 25) rfl (fun _ h9 => h9) fl_X9_93 (fun _ h9 => h9) dX9_paid_20 (fun eq_6 => ?_) (fun q_6 eq_6 hq_6 => ?_)
      · skip
        refine lv_ifnonnullN hx hb dX9_paid_23 ?_
        refine lv_ldc2 (v := (-1000000000000)) hx hb hown (hts _ kl_X9_176) dX9_paid_26 ?_
        exact ret_l hx hb hr hlocks ⟨rfl, _, rfl, trivial⟩ (fun _ h => absurd h List.not_mem_nil) (Nat.le_refl _) (Nat.le_refl _) dX9_paid_29
      · skip
        refine lv_ifnonnull (tgt := 30) hx hb dX9_paid_23 (by decide) ?_
        refine lv_aload_n hx hb dX9_paid_30 rfl (lv_at hl 0 rfl) ?_
        refine t_getr cf_1 hx hb hts hown hK hT h_a (k := 7) (P := fun q => τ q = 23) rfl (fun _ h9 => h9) fl_X9_54 (fun _ h9 => h9) dX9_paid_31 (fun q_7 eq_7 hq_7 => ?_)
        refine lv_iload_n hx hb dX9_paid_34 rfl (lv_at hl 1 rfl) ?_
        refine t_aald4 (n := 4) (i := v0) (P := fun q => τ q = 9) rfl (by decide) hx hb hK hT hq_7 (hT.len hq_7 (by decide)) ⟨by omega, by omega⟩ (fun _ _ h9 => h9) dX9_paid_35 (fun eq_8 => ?_) (fun q_8 eq_8 hq_8 => ?_)
        · skip
          refine lv_astoreN (lv' := [(4, .null), (0, .ref a), (1, .int v0), (2, .int v1), (3, .int v2)]) hx hb dX9_paid_36 hl (by decide) rfl (fun ls hl => ?_)
          refine lv_aloadN hx hb dX9_paid_38 (lv_at hl 0 rfl) ?_
          refine lv_ifnullN (tgt := 59) hx hb dX9_paid_40 (by decide) ?_
          refine lv_ldc2 (v := (-1000000000000)) hx hb hown (hts _ kl_X9_176) dX9_paid_59 ?_
          exact ret_l hx hb hr hlocks ⟨rfl, _, rfl, trivial⟩ (fun _ h => absurd h List.not_mem_nil) (Nat.le_refl _) (Nat.le_refl _) dX9_paid_62
        · skip
          refine lv_astore (lv' := [(4, .ref q_8), (0, .ref a), (1, .int v0), (2, .int v1), (3, .int v2)]) hx hb dX9_paid_36 hl (by decide) rfl (fun ls hl => ?_)
          refine lv_aload hx hb dX9_paid_38 (lv_at hl 0 rfl) ?_
          refine lv_ifnull hx hb dX9_paid_40 ?_
          refine lv_aload hx hb dX9_paid_43 (lv_at hl 0 rfl) ?_
          refine t_getr cf_9 hx hb hts hown hK hT hq_8 (k := 1) (P := fun q => τ q = 40) rfl (fun _ h9 => h9) fl_X9_315 (fun _ h9 => h9) dX9_paid_45 (fun q_9 eq_9 hq_9 => ?_)
          obtain ⟨n_10, en_10⟩ : ∃ y : Nat, y = G.2.2.2 q_9 := ⟨_, rfl⟩
          have rn_10 : n_10 ≤ 60 := by rw [en_10]; exact hT.len hq_9 (by decide)
          refine t_alen (v := Int32.ofNat n_10) rfl (by decide) hx hb hK hT hq_9 rfl (by rw [show _ = n_10 from (en_10.symm)]) dX9_paid_48 ?_
          refine lv_topi (fun z_11 ez_11 => ?_)
          have tz_11 : z_11.toInt = n_10 := len_t ez_11 (by omega)
          refine lv_aload_n hx hb dX9_paid_49 rfl (lv_at hl 1 rfl) ?_
          refine t_getr cf_1 hx hb hts hown hK hT h_a (k := 10) (P := fun q => τ q = 7) rfl (fun _ h9 => h9) fl_X9_67 (fun _ h9 => h9) dX9_paid_50 (fun q_12 eq_12 hq_12 => ?_)
          have w_13 : q_3 = q_12 := Option.some.inj (eq_3.symm.trans eq_12)
          subst w_13
          refine t_geti cf_7 hx hb hts hown hK hT hq_3 (k := 1) rfl fl_X9_155 (fun _ h9 => h9) dX9_paid_53 (fun z_14 ez_14 rz_14 => ?_)
          have ez_14 : z_14 = G.1 q_3 1 := ez_14
          have rz_14 : 0 ≤ z_14.toInt ∧ z_14.toInt ≤ 60 := rz_14
          refine lv_icmp_le (tgt := 63) hx hb dX9_paid_56 (by decide) (fun c_15 => ?_) (fun c_15 => ?_)
          · skip
            have tc_15 : z_11.toInt ≤ z_14.toInt := (fa_le _ _).mp c_15
            refine lv_aload_n hx hb dX9_paid_63 rfl (lv_at hl 1 rfl) ?_
            refine t_getr cf_1 hx hb hts hown hK hT h_a (k := 10) (P := fun q => τ q = 7) rfl (fun _ h9 => h9) fl_X9_67 (fun _ h9 => h9) dX9_paid_64 (fun q_16 eq_16 hq_16 => ?_)
            have w_17 : q_3 = q_16 := Option.some.inj (eq_3.symm.trans eq_16)
            subst w_17
            refine lv_aload hx hb dX9_paid_67 (lv_at hl 0 rfl) ?_
            refine t_getr cf_9 hx hb hts hown hK hT hq_8 (k := 1) (P := fun q => τ q = 40) rfl (fun _ h9 => h9) fl_X9_315 (fun _ h9 => h9) dX9_paid_69 (fun q_18 eq_18 hq_18 => ?_)
            have w_19 : q_9 = q_18 := Option.some.inj (eq_9.symm.trans eq_18)
            subst w_19
            refine lv_aload_n hx hb dX9_paid_72 rfl (lv_at hl 1 rfl) ?_
            refine t_getn cf_1 hx hb hts hown hK hT h_a (k := 11) (P := fun q => τ q = 25) rfl (fun _ h9 => h9) fl_X9_93 (fun _ h9 => h9) dX9_paid_73 (fun eq_20 => ?_) (fun q_20 eq_20 hq_20 => ?_)
            · skip
              exact absurd (eq_6.symm.trans eq_20) (by simp)
            · skip
              have w_21 : q_6 = q_20 := Option.some.inj (eq_6.symm.trans eq_20)
              subst w_21
              refine lv_iload_n hx hb dX9_paid_76 rfl (lv_at hl 3 rfl) ?_
              refine t_iald (n := 6) (i := v1) rfl (by decide) hx hb hK hT hq_6 (hT.len hq_6 (by decide)) ⟨by omega, by omega⟩ dX9_paid_77 (fun z_22 ez_22 rz_22 => ?_)
              refine pu_calli (runV (As := [.ref q_9, .int z_22]) (rest := []) ⟨hx, hb, hml, hown, hts⟩ (t_X2_firstWrong l D cy base τ G q_3 hq_3 q_9 hq_9 z_22) sV_X9_333 hK (t_recv cf_7 hK hT hq_3) ⟨Nat.le_trans hZ hS.1, hT⟩ ⟨Nat.le_of_ble_eq_true rfl, Nat.le_of_ble_eq_true rfl⟩ rfl hl.1 rfl (Nat.le_of_ble_eq_true rfl) dX9_paid_78 ⟨Nat.le_of_ble_eq_true rfl, Nat.le_of_ble_eq_true rfl⟩) (fun r_23 hr_23 => ?_)
              refine lv_if_eq (tgt := 88) hx hb dX9_paid_81 (by decide) (fun c_24 => ?_) (fun c_24 => ?_)
              · skip
                have tc_24 : r_23.toInt = 0 := (fa_eq _ _).mp c_24
                refine lv_aload hx hb dX9_paid_88 (lv_at hl 0 rfl) ?_
                refine pu_calll (runV (As := []) (rest := []) ⟨hx, hb, hml, hown, hts⟩ (t_X6_total l D cy base τ G q_8 hq_8) sV_X9_337 hK (t_recv cf_9 hK hT hq_8) ⟨Nat.le_trans hZ hS.1, hT⟩ ⟨Nat.le_of_ble_eq_true rfl, Nat.le_of_ble_eq_true rfl⟩ rfl hl.1 rfl (Nat.le_of_ble_eq_true rfl) dX9_paid_90 ⟨Nat.le_of_ble_eq_true rfl, Nat.le_of_ble_eq_true rfl⟩) (fun r_25 hr_25 => ?_)
                refine lv_lstore (lv' := [(5, .long r_25), (4, .ref q_8), (0, .ref a), (1, .int v0), (2, .int v1), (3, .int v2)]) hx hb dX9_paid_93 hl (by decide) rfl (fun ls hl => ?_)
                refine lv_lload hx hb dX9_paid_95 (lv_at hl 0 rfl) ?_
                refine lv_aload_n hx hb dX9_paid_97 rfl (lv_at hl 2 rfl) ?_
                refine t_getr cf_1 hx hb hts hown hK hT h_a (k := 10) (P := fun q => τ q = 7) rfl (fun _ h9 => h9) fl_X9_67 (fun _ h9 => h9) dX9_paid_98 (fun q_26 eq_26 hq_26 => ?_)
                have w_27 : q_3 = q_26 := Option.some.inj (eq_3.symm.trans eq_26)
                subst w_27
                refine t_geti cf_7 hx hb hts hown hK hT hq_3 (k := 9) rfl fl_X9_341 (fun _ h9 => h9) dX9_paid_101 (fun z_28 ez_28 rz_28 => ?_)
                have ez_28 : z_28 = G.1 q_3 9 := ez_28
                have rz_28 : 1 ≤ z_28.toInt ∧ z_28.toInt ≤ 50 := rz_28
                refine lv_i2l hx hb dX9_paid_104 rfl ?_
                refine lv_topl (fun z_29 ez_29 => ?_)
                have tz_29 : z_29.toInt = z_28.toInt := by rw [ez_29]; exact wide_t z_28
                refine lv_lmul hx hb dX9_paid_105 ?_
                refine lv_topl (fun z_30 ez_30 => ?_)
                refine lv_lstore (lv' := [(7, .long z_30), (5, .long r_25), (4, .ref q_8), (0, .ref a), (1, .int v0), (2, .int v1), (3, .int v2)]) hx hb dX9_paid_106 hl (by decide) rfl (fun ls hl => ?_)
                refine lv_aload_n hx hb dX9_paid_108 rfl (lv_at hl 3 rfl) ?_
                refine t_getr cf_1 hx hb hts hown hK hT h_a (k := 10) (P := fun q => τ q = 7) rfl (fun _ h9 => h9) fl_X9_67 (fun _ h9 => h9) dX9_paid_109 (fun q_31 eq_31 hq_31 => ?_)
                have w_32 : q_3 = q_31 := Option.some.inj (eq_3.symm.trans eq_31)
                subst w_32
                refine lv_iload_n hx hb dX9_paid_112 rfl (lv_at hl 5 rfl) ?_
                refine lv_iload_n hx hb dX9_paid_113 rfl (lv_at hl 6 rfl) ?_
                refine lv_aload_n hx hb dX9_paid_114 rfl (lv_at hl 3 rfl) ?_
                refine t_getn cf_1 hx hb hts hown hK hT h_a (k := 11) (P := fun q => τ q = 25) rfl (fun _ h9 => h9) fl_X9_93 (fun _ h9 => h9) dX9_paid_115 (fun eq_33 => ?_) (fun q_33 eq_33 hq_33 => ?_)
                · skip
                  exact absurd (eq_6.symm.trans eq_33) (by simp)
                · skip
                  have w_34 : q_6 = q_33 := Option.some.inj (eq_6.symm.trans eq_33)
                  subst w_34
                  refine lv_iload_n hx hb dX9_paid_118 rfl (lv_at hl 5 rfl) ?_
                  refine t_iald (n := 6) (i := v1) rfl (by decide) hx hb hK hT hq_6 (hT.len hq_6 (by decide)) ⟨by omega, by omega⟩ dX9_paid_119 (fun z_35 ez_35 rz_35 => ?_)
                  have w_36 : z_22 = z_35 := ez_22.trans ez_35.symm
                  subst w_36
                  refine pu_calli (runV (As := [.int v1, .int v2, .int z_22]) (rest := []) ⟨hx, hb, hml, hown, hts⟩ (t_X2_wanted l D cy base τ G q_3 hq_3 v1 v2 z_22) sV_X9_163 hK (t_recv cf_7 hK hT hq_3) ⟨Nat.le_trans hZ hS.1, hT⟩ ⟨Nat.le_of_ble_eq_true rfl, Nat.le_of_ble_eq_true rfl⟩ rfl hl.1 rfl (Nat.le_of_ble_eq_true rfl) dX9_paid_120 ⟨Nat.le_of_ble_eq_true rfl, Nat.le_of_ble_eq_true rfl⟩) (fun r_37 hr_37 => ?_)
                  refine lv_i2l hx hb dX9_paid_123 rfl ?_
                  refine lv_topl (fun z_38 ez_38 => ?_)
                  have tz_38 : z_38.toInt = r_37.toInt := by rw [ez_38]; exact wide_t r_37
                  have az_38 := min_t r_37
                  have bz_38 := max_t r_37
                  refine lv_lstore (lv' := [(9, .long z_38), (7, .long z_30), (5, .long r_25), (4, .ref q_8), (0, .ref a), (1, .int v0), (2, .int v1), (3, .int v2)]) hx hb dX9_paid_124 hl (by decide) rfl (fun ls hl => ?_)
                  refine lv_lconst (v := 0) hx hb dX9_paid_126 (by decide) ?_
                  refine lv_lload hx hb dX9_paid_127 (lv_at hl 0 rfl) ?_
                  refine lv_lload hx hb dX9_paid_129 (lv_at hl 1 rfl) ?_
                  refine lv_lsub hx hb dX9_paid_131 ?_
                  refine lv_topl (fun z_39 ez_39 => ?_)
                  refine va_mmax_long hx hb (by rw [hml]; exact hl.1.symm) hown (hts _ ml_X9_344) (hts _ st_math_maxl) (hts _ ini_J9) (hts _ co_math_maxl) (Nat.le_of_ble_eq_true rfl) (Nat.le_of_ble_eq_true rfl) (Nat.le_of_ble_eq_true rfl) (Nat.le_of_ble_eq_true rfl) dX9_paid_132 ?_
                  refine lv_topl (fun z_40 ez_40 => ?_)
                  refine lv_lstore (lv' := [(11, .long z_40), (9, .long z_38), (7, .long z_30), (5, .long r_25), (4, .ref q_8), (0, .ref a), (1, .int v0), (2, .int v1), (3, .int v2)]) hx hb dX9_paid_135 hl (by decide) rfl (fun ls hl => ?_)
                  refine lv_lconst (v := 0) hx hb dX9_paid_137 (by decide) ?_
                  refine lv_lload hx hb dX9_paid_138 (lv_at hl 2 rfl) ?_
                  refine lv_lload hx hb dX9_paid_140 (lv_at hl 1 rfl) ?_
                  refine lv_lsub hx hb dX9_paid_142 ?_
                  refine lv_topl (fun z_41 ez_41 => ?_)
                  refine va_mmax_long hx hb (by rw [hml]; exact hl.1.symm) hown (hts _ ml_X9_344) (hts _ st_math_maxl) (hts _ ini_J9) (hts _ co_math_maxl) (Nat.le_of_ble_eq_true rfl) (Nat.le_of_ble_eq_true rfl) (Nat.le_of_ble_eq_true rfl) (Nat.le_of_ble_eq_true rfl) dX9_paid_143 ?_
                  refine lv_topl (fun z_42 ez_42 => ?_)
                  refine lv_lstore (lv' := [(13, .long z_42), (11, .long z_40), (9, .long z_38), (7, .long z_30), (5, .long r_25), (4, .ref q_8), (0, .ref a), (1, .int v0), (2, .int v1), (3, .int v2)]) hx hb dX9_paid_146 hl (by decide) rfl (fun ls hl => ?_)
                  refine lv_ldc2 (v := 1000) hx hb hown (hts _ kl_X9_228) dX9_paid_148 ?_
                  refine lv_lload hx hb dX9_paid_151 (lv_at hl 4 rfl) ?_
                  refine lv_aload_n hx hb dX9_paid_153 rfl (lv_at hl 6 rfl) ?_
                  refine t_getr cf_1 hx hb hts hown hK hT h_a (k := 10) (P := fun q => τ q = 7) rfl (fun _ h9 => h9) fl_X9_67 (fun _ h9 => h9) dX9_paid_154 (fun q_43 eq_43 hq_43 => ?_)
                  have w_44 : q_3 = q_43 := Option.some.inj (eq_3.symm.trans eq_43)
                  subst w_44
                  refine t_geti cf_7 hx hb hts hown hK hT hq_3 (k := 10) rfl fl_X9_230 (fun _ h9 => h9) dX9_paid_157 (fun z_45 ez_45 rz_45 => ?_)
                  have ez_45 : z_45 = G.1 q_3 10 := ez_45
                  refine lv_i2l hx hb dX9_paid_160 rfl ?_
                  refine lv_topl (fun z_46 ez_46 => ?_)
                  have tz_46 : z_46.toInt = z_45.toInt := by rw [ez_46]; exact wide_t z_45
                  have az_46 := min_t z_45
                  have bz_46 := max_t z_45
                  refine lv_lmul hx hb dX9_paid_161 ?_
                  refine lv_topl (fun z_47 ez_47 => ?_)
                  refine lv_lload hx hb dX9_paid_162 (lv_at hl 3 rfl) ?_
                  refine lv_aload_n hx hb dX9_paid_164 rfl (lv_at hl 6 rfl) ?_
                  refine t_getr cf_1 hx hb hts hown hK hT h_a (k := 10) (P := fun q => τ q = 7) rfl (fun _ h9 => h9) fl_X9_67 (fun _ h9 => h9) dX9_paid_165 (fun q_48 eq_48 hq_48 => ?_)
                  have w_49 : q_3 = q_48 := Option.some.inj (eq_3.symm.trans eq_48)
                  subst w_49
                  refine t_getr cf_7 hx hb hts hown hK hT hq_3 (k := 14) (P := fun q => τ q = 26) rfl (fun _ h9 => h9) fl_X9_346 (fun _ h9 => h9) dX9_paid_168 (fun q_50 eq_50 hq_50 => ?_)
                  refine lv_iload_n hx hb dX9_paid_171 rfl (lv_at hl 9 rfl) ?_
                  refine t_iald (n := 3) (i := v2) rfl (by decide) hx hb hK hT hq_50 (hT.len hq_50 (by decide)) ⟨by omega, by omega⟩ dX9_paid_172 (fun z_51 ez_51 rz_51 => ?_)
                  refine lv_i2l hx hb dX9_paid_173 rfl ?_
                  refine lv_topl (fun z_52 ez_52 => ?_)
                  have tz_52 : z_52.toInt = z_51.toInt := by rw [ez_52]; exact wide_t z_51
                  have az_52 := min_t z_51
                  have bz_52 := max_t z_51
                  refine lv_lmul hx hb dX9_paid_174 ?_
                  refine lv_topl (fun z_53 ez_53 => ?_)
                  refine lv_ladd hx hb dX9_paid_175 ?_
                  refine lv_topl (fun z_54 ez_54 => ?_)
                  refine lv_lload hx hb dX9_paid_176 (lv_at hl 1 rfl) ?_
                  refine lv_aload_n hx hb dX9_paid_178 rfl (lv_at hl 6 rfl) ?_
                  refine t_getr cf_1 hx hb hts hown hK hT h_a (k := 10) (P := fun q => τ q = 7) rfl (fun _ h9 => h9) fl_X9_67 (fun _ h9 => h9) dX9_paid_179 (fun q_55 eq_55 hq_55 => ?_)
                  have w_56 : q_3 = q_55 := Option.some.inj (eq_3.symm.trans eq_55)
                  subst w_56
                  refine t_getr cf_7 hx hb hts hown hK hT hq_3 (k := 15) (P := fun q => τ q = 26) rfl (fun _ h9 => h9) fl_X9_251 (fun _ h9 => h9) dX9_paid_182 (fun q_57 eq_57 hq_57 => ?_)
                  refine lv_iload_n hx hb dX9_paid_185 rfl (lv_at hl 9 rfl) ?_
                  refine t_iald (n := 3) (i := v2) rfl (by decide) hx hb hK hT hq_57 (hT.len hq_57 (by decide)) ⟨by omega, by omega⟩ dX9_paid_186 (fun z_58 ez_58 rz_58 => ?_)
                  refine lv_i2l hx hb dX9_paid_187 rfl ?_
                  refine lv_topl (fun z_59 ez_59 => ?_)
                  have tz_59 : z_59.toInt = z_58.toInt := by rw [ez_59]; exact wide_t z_58
                  have az_59 := min_t z_58
                  have bz_59 := max_t z_58
                  refine lv_lmul hx hb dX9_paid_188 ?_
                  refine lv_topl (fun z_60 ez_60 => ?_)
                  refine lv_ladd hx hb dX9_paid_189 ?_
                  refine lv_topl (fun z_61 ez_61 => ?_)
                  refine lv_lload hx hb dX9_paid_190 (lv_at hl 0 rfl) ?_
                  refine lv_aload_n hx hb dX9_paid_192 rfl (lv_at hl 6 rfl) ?_
                  refine t_getr cf_1 hx hb hts hown hK hT h_a (k := 10) (P := fun q => τ q = 7) rfl (fun _ h9 => h9) fl_X9_67 (fun _ h9 => h9) dX9_paid_193 (fun q_62 eq_62 hq_62 => ?_)
                  have w_63 : q_3 = q_62 := Option.some.inj (eq_3.symm.trans eq_62)
                  subst w_63
                  refine t_getr cf_7 hx hb hts hown hK hT hq_3 (k := 16) (P := fun q => τ q = 26) rfl (fun _ h9 => h9) fl_X9_349 (fun _ h9 => h9) dX9_paid_196 (fun q_64 eq_64 hq_64 => ?_)
                  refine lv_iload_n hx hb dX9_paid_199 rfl (lv_at hl 9 rfl) ?_
                  refine t_iald (n := 3) (i := v2) rfl (by decide) hx hb hK hT hq_64 (hT.len hq_64 (by decide)) ⟨by omega, by omega⟩ dX9_paid_200 (fun z_65 ez_65 rz_65 => ?_)
                  refine lv_i2l hx hb dX9_paid_201 rfl ?_
                  refine lv_topl (fun z_66 ez_66 => ?_)
                  have tz_66 : z_66.toInt = z_65.toInt := by rw [ez_66]; exact wide_t z_65
                  have az_66 := min_t z_65
                  have bz_66 := max_t z_65
                  refine lv_lmul hx hb dX9_paid_202 ?_
                  refine lv_topl (fun z_67 ez_67 => ?_)
                  refine lv_ladd hx hb dX9_paid_203 ?_
                  refine lv_topl (fun z_68 ez_68 => ?_)
                  refine lv_lmul hx hb dX9_paid_204 ?_
                  refine lv_topl (fun z_69 ez_69 => ?_)
                  exact ret_l hx hb hr hlocks ⟨rfl, _, rfl, trivial⟩ (fun _ h => absurd h List.not_mem_nil) (Nat.le_refl _) (Nat.le_refl _) dX9_paid_205
              · skip
                have tc_24 : ¬ r_23.toInt = 0 := fun h => c_24 ((fa_eq _ _).mpr h)
                refine lv_ldc2 (v := (-1000000000000)) hx hb hown (hts _ kl_X9_176) dX9_paid_84 ?_
                exact ret_l hx hb hr hlocks ⟨rfl, _, rfl, trivial⟩ (fun _ h => absurd h List.not_mem_nil) (Nat.le_refl _) (Nat.le_refl _) dX9_paid_87
          · skip
            have tc_15 : ¬ z_11.toInt ≤ z_14.toInt := fun h => c_15 ((fa_le _ _).mpr h)
            refine lv_ldc2 (v := (-1000000000000)) hx hb hown (hts _ kl_X9_176) dX9_paid_59 ?_
            exact ret_l hx hb hr hlocks ⟨rfl, _, rfl, trivial⟩ (fun _ h => absurd h List.not_mem_nil) (Nat.le_refl _) (Nat.le_refl _) dX9_paid_62
    · skip
      have er_4 := hr_4_1
      subst er_4
      refine W.eq (g2 := F0 m 16 ls [.int 0]) rfl ?_
      refine lv_if_eq (tgt := 26) hx hb dX9_paid_16 (by decide) (fun _ => ?_) (fun c_70 => absurd (by decide) c_70)
      refine lv_ldc2 (v := (-1000000000000)) hx hb hown (hts _ kl_X9_176) dX9_paid_26 ?_
      exact ret_l hx hb hr hlocks ⟨rfl, _, rfl, trivial⟩ (fun _ h => absurd h List.not_mem_nil) (Nat.le_refl _) (Nat.le_refl _) dX9_paid_29
  · skip
    have er_1 := hr_1_1
    subst er_1
    refine W.eq (g2 := F0 m 4 ls [.int 0]) rfl ?_
    refine lv_if_eq (tgt := 26) hx hb dX9_paid_4 (by decide) (fun _ => ?_) (fun c_71 => absurd (by decide) c_71)
    refine lv_ldc2 (v := (-1000000000000)) hx hb hown (hts _ kl_X9_176) dX9_paid_26 ?_
    exact ret_l hx hb hr hlocks ⟨rfl, _, rfl, trivial⟩ (fun _ h => absurd h List.not_mem_nil) (Nat.le_refl _) (Nat.le_refl _) dX9_paid_29
set_option maxHeartbeats 4000000 in
set_option maxRecDepth 100000 in
theorem t_X9_years (l : Launch) (D : va_G) (cy : Nat → ClassId) (base : Nat) (τ : Nat → Nat) (G : Gh) (a : Nat) (h_a : τ a = 1) (v0 : Int32) (v1 : Int32) (v2 : Int32) (v3 : Int32) (v4 : Int32) (v5 : Int32) : MM l yX9_years cX9_years 11 (some .int) 2 0 0 D cy [.ref a, .int v0, .int v1, .int v2, .int v3, .int v4, .int v5] (PT D cy base τ G) (QT D cy base τ G [6, 25] (fun v g => ∃ r : Int32, v = some (.int r) ∧ (True))) (RA base) := by
  refine MM.of (by decide) (Nat.le_of_ble_eq_true rfl) ?_
  intro p e s m below meth c C hPT ls hl
  obtain ⟨hx, hb, hr, hml, hown, hts, hlocks, hK, hnm⟩ := C
  obtain ⟨hZ, hT⟩ := hPT
  have hS : va_S (RA base) s.heap s.heap [] := va_S.rf
  have hF : Fr τ [6, 25] G G := Fr.rf
  have hl : lv_has ls 11 [(0, .ref a), (1, .int v0), (2, .int v1), (3, .int v2), (4, .int v3), (5, .int v4), (6, .int v5)] := hl
  refine lv_iload_n hx hb dX9_years_0 rfl (lv_at hl 1 rfl) ?_
  refine pu_calli (runS (As := [.int v0]) (rest := []) ⟨hx, hb, hml, hown, hts⟩ (t_X9_isSeed l D cy base τ G v0) sS_X9_301 hK ⟨Nat.le_trans hZ hS.1, hT⟩ ⟨Nat.le_of_ble_eq_true rfl, Nat.le_of_ble_eq_true rfl⟩ rfl hl.1 rfl (Nat.le_of_ble_eq_true rfl) dX9_years_1 ⟨Nat.le_of_ble_eq_true rfl, Nat.le_of_ble_eq_true rfl⟩) (fun r_1 hr_1 => ?_)
  have hr_1_c := hr_1
  rcases hr_1_c with hr_1_0 | hr_1_1
  · skip
    obtain ⟨er_1, hr_1_0_f0, hr_1_0_f1⟩ := hr_1_0
    have hr_1_0_f0 : 0 ≤ v0.toInt := hr_1_0_f0
    have hr_1_0_f1 : v0.toInt ≤ 2000000000 := hr_1_0_f1
    subst er_1
    refine W.eq (g2 := F0 m 4 ls [.int 1]) rfl ?_
    refine lv_if_eq (tgt := 29) hx hb dX9_years_4 (by decide) (fun c_2 => absurd c_2 (by decide)) (fun _ => ?_)
    refine lv_iload_n hx hb dX9_years_7 rfl (lv_at hl 2 rfl) ?_
    refine lv_iconst (v := 1) hx hb dX9_years_8 (by decide) ?_
    refine lv_icmp_lt (tgt := 29) hx hb dX9_years_9 (by decide) (fun c_3 => ?_) (fun c_3 => ?_)
    · skip
      have tc_3 : v1.toInt < 1 := (fa_lt _ _).mp c_3
      refine lv_bipush (v := (-2)) hx hb dX9_years_29 (by decide) ?_
      exact ret_i hx hb hr hlocks ⟨⟨hS.1, hS.2.1⟩, G, hF, ⟨_, rfl, trivial⟩, hT⟩ hS.2.2 (Nat.le_of_ble_eq_true rfl) (Nat.le_of_ble_eq_true rfl) dX9_years_31
    · skip
      have tc_3 : ¬ v1.toInt < 1 := fun h => c_3 ((fa_lt _ _).mpr h)
      refine lv_iload_n hx hb dX9_years_12 rfl (lv_at hl 2 rfl) ?_
      refine lv_bipush (v := 100) hx hb dX9_years_13 (by decide) ?_
      refine lv_icmp_gt (tgt := 29) hx hb dX9_years_15 (by decide) (fun c_4 => ?_) (fun c_4 => ?_)
      · skip
        have tc_4 : 100 < v1.toInt := (fa_lt _ _).mp c_4
        have mc_4 : v1.toInt ≤ 2147483647 := max_t v1
        refine lv_bipush (v := (-2)) hx hb dX9_years_29 (by decide) ?_
        exact ret_i hx hb hr hlocks ⟨⟨hS.1, hS.2.1⟩, G, hF, ⟨_, rfl, trivial⟩, hT⟩ hS.2.2 (Nat.le_of_ble_eq_true rfl) (Nat.le_of_ble_eq_true rfl) dX9_years_31
      · skip
        have tc_4 : ¬ 100 < v1.toInt := fun h => c_4 ((fa_lt _ _).mpr h)
        refine lv_iload hx hb dX9_years_18 (lv_at hl 6 rfl) ?_
        refine lv_if_lt (tgt := 29) hx hb dX9_years_20 (by decide) (fun c_5 => ?_) (fun c_5 => ?_)
        · skip
          have tc_5 : v5.toInt < 0 := (fa_lt _ _).mp c_5
          refine lv_bipush (v := (-2)) hx hb dX9_years_29 (by decide) ?_
          exact ret_i hx hb hr hlocks ⟨⟨hS.1, hS.2.1⟩, G, hF, ⟨_, rfl, trivial⟩, hT⟩ hS.2.2 (Nat.le_of_ble_eq_true rfl) (Nat.le_of_ble_eq_true rfl) dX9_years_31
        · skip
          have tc_5 : ¬ v5.toInt < 0 := fun h => c_5 ((fa_lt _ _).mpr h)
          refine lv_iload hx hb dX9_years_23 (lv_at hl 6 rfl) ?_
          refine lv_iconst (v := 3) hx hb dX9_years_25 (by decide) ?_
          refine lv_icmp_le (tgt := 32) hx hb dX9_years_26 (by decide) (fun c_6 => ?_) (fun c_6 => ?_)
          · skip
            have tc_6 : v5.toInt ≤ 3 := (fa_le _ _).mp c_6
            refine lv_aload_n hx hb dX9_years_32 rfl (lv_at hl 0 rfl) ?_
            refine t_getr cf_1 hx hb hts hown hK hT h_a (k := 10) (P := fun q => τ q = 7) rfl (fun _ h9 => h9) fl_X9_67 (fun _ h9 => h9) dX9_years_33 (fun q_7 eq_7 hq_7 => ?_)
            refine lv_iload_n hx hb dX9_years_36 rfl (lv_at hl 3 rfl) ?_
            refine lv_iload hx hb dX9_years_37 (lv_at hl 4 rfl) ?_
            refine pu_calli (runV (As := [.int v2, .int v3]) (rest := []) ⟨hx, hb, hml, hown, hts⟩ (t_X2_hasStore l D cy base τ G q_7 hq_7 v2 v3) sV_X9_160 hK (t_recv cf_7 hK hT hq_7) ⟨Nat.le_trans hZ hS.1, hT⟩ ⟨Nat.le_of_ble_eq_true rfl, Nat.le_of_ble_eq_true rfl⟩ rfl hl.1 rfl (Nat.le_of_ble_eq_true rfl) dX9_years_39 ⟨Nat.le_of_ble_eq_true rfl, Nat.le_of_ble_eq_true rfl⟩) (fun r_8 hr_8 => ?_)
            have hr_8_c := hr_8
            rcases hr_8_c with hr_8_0 | hr_8_1
            · skip
              obtain ⟨er_8, hr_8_0_f0, hr_8_0_f1, hr_8_0_f2, hr_8_0_f3⟩ := hr_8_0
              have hr_8_0_f0 : 0 ≤ v2.toInt := hr_8_0_f0
              have hr_8_0_f1 : v2.toInt ≤ 5 := hr_8_0_f1
              have hr_8_0_f2 : 0 ≤ v3.toInt := hr_8_0_f2
              have hr_8_0_f3 : v3.toInt ≤ 2 := hr_8_0_f3
              subst er_8
              refine W.eq (g2 := F0 m 42 ls [.int 1]) rfl ?_
              refine lv_if_eq (tgt := 53) hx hb dX9_years_42 (by decide) (fun c_9 => absurd c_9 (by decide)) (fun _ => ?_)
              refine lv_iload hx hb dX9_years_45 (lv_at hl 5 rfl) ?_
              refine pu_calli (runS (As := [.int v4]) (rest := []) ⟨hx, hb, hml, hown, hts⟩ (t_X9_isSacks l D cy base τ G v4) sS_X9_167 hK ⟨Nat.le_trans hZ hS.1, hT⟩ ⟨Nat.le_of_ble_eq_true rfl, Nat.le_of_ble_eq_true rfl⟩ rfl hl.1 rfl (Nat.le_of_ble_eq_true rfl) dX9_years_47 ⟨Nat.le_of_ble_eq_true rfl, Nat.le_of_ble_eq_true rfl⟩) (fun r_10 hr_10 => ?_)
              have hr_10_c := hr_10
              rcases hr_10_c with hr_10_0 | hr_10_1
              · skip
                obtain ⟨er_10, hr_10_0_f0, hr_10_0_f1⟩ := hr_10_0
                have hr_10_0_f0 : 0 ≤ v4.toInt := hr_10_0_f0
                have hr_10_0_f1 : v4.toInt ≤ 999 := hr_10_0_f1
                subst er_10
                refine W.eq (g2 := F0 m 50 ls [.int 1]) rfl ?_
                refine lv_if_ne (tgt := 56) hx hb dX9_years_50 (by decide) (fun _ => ?_) (fun c_11 => absurd c_11 (by decide))
                refine lv_iconst (v := 0) hx hb dX9_years_56 (by decide) ?_
                refine lv_istore (lv' := [(7, .int 0), (0, .ref a), (1, .int v0), (2, .int v1), (3, .int v2), (4, .int v3), (5, .int v4), (6, .int v5)]) hx hb dX9_years_57 hl (by decide) rfl (fun ls hl => ?_)
                refine lv_iconst (v := 0) hx hb dX9_years_59 (by decide) ?_
                refine lv_istore (lv' := [(8, .int 0), (7, .int 0), (0, .ref a), (1, .int v0), (2, .int v1), (3, .int v2), (4, .int v3), (5, .int v4), (6, .int v5)]) hx hb dX9_years_60 hl (by decide) rfl (fun ls hl => ?_)
                refine W.loop (σ := Int32 × Int32 × Gh) (fun w12 H locs ls => 0 ≤ w12.2.1.toInt ∧ w12.2.1.toInt ≤ 100 ∧ Fr τ [6, 25] G w12.2.2 ∧ TY D cy base τ w12.2.2 H ∧ va_S (RA base) s.heap H locs ∧ lv_has ls 11 [(7, .int w12.1), (8, .int w12.2.1), (0, .ref a), (1, .int v0), (2, .int v1), (3, .int v2), (4, .int v3), (5, .int v4), (6, .int v5)]) (fun w12 => (100 - w12.2.1.toInt).toNat) ?_ ((0 : Int32), (0 : Int32), G) _ _ _ ⟨(by show 0 ≤ (0 : Int32).toInt; decide), (by show (0 : Int32).toInt ≤ 100; decide), hF, hT, hS, lv_sub hl [1, 0, 2, 3, 4, 5, 6, 7, 8] rfl⟩
                intro w12 H locs ls hI ih12
                obtain ⟨x12_7, x12_8, G_12⟩ := w12
                obtain ⟨i12_0, i12_1, hF, hT, hS, hl⟩ := hI
                have i12_0 : 0 ≤ x12_8.toInt := i12_0
                have i12_1 : x12_8.toInt ≤ 100 := i12_1
                have hF : Fr τ [6, 25] G G_12 := hF
                have hT : TY D cy base τ G_12 H := hT
                have hS : va_S (RA base) s.heap H locs := hS
                have hl : lv_has ls 11 [(7, .int x12_7), (8, .int x12_8), (0, .ref a), (1, .int v0), (2, .int v1), (3, .int v2), (4, .int v3), (5, .int v4), (6, .int v5)] := hl
                refine lv_iload hx hb dX9_years_62 (lv_at hl 1 rfl) ?_
                refine lv_iload_n hx hb dX9_years_64 rfl (lv_at hl 4 rfl) ?_
                refine lv_icmp_ge (tgt := 197) hx hb dX9_years_65 (by decide) (fun c_13 => ?_) (fun c_13 => ?_)
                · skip
                  have tc_13 : v1.toInt ≤ x12_8.toInt := (fa_le _ _).mp c_13
                  refine lv_iload hx hb dX9_years_197 (lv_at hl 0 rfl) ?_
                  exact ret_i hx hb hr hlocks ⟨⟨hS.1, hS.2.1⟩, G_12, hF, ⟨_, rfl, trivial⟩, hT⟩ hS.2.2 (Nat.le_of_ble_eq_true rfl) (Nat.le_of_ble_eq_true rfl) dX9_years_199
                · skip
                  have tc_13 : ¬ v1.toInt ≤ x12_8.toInt := fun h => c_13 ((fa_le _ _).mpr h)
                  refine lv_aload_n hx hb dX9_years_68 rfl (lv_at hl 2 rfl) ?_
                  refine t_getr cf_1 hx hb hts hown hK hT h_a (k := 5) (P := fun q => τ q = 6) rfl (fun _ h9 => h9) fl_X9_44 (fun _ h9 => h9) dX9_years_69 (fun q_14 eq_14 hq_14 => ?_)
                  have eq_14 := (hF.r h_a (by decide) rfl _).symm.trans eq_14
                  refine lv_aload_n hx hb dX9_years_72 rfl (lv_at hl 2 rfl) ?_
                  refine t_getr cf_1 hx hb hts hown hK hT h_a (k := 10) (P := fun q => τ q = 7) rfl (fun _ h9 => h9) fl_X9_67 (fun _ h9 => h9) dX9_years_73 (fun q_15 eq_15 hq_15 => ?_)
                  have w_16 : q_7 = q_15 := Option.some.inj (eq_7.symm.trans ((hF.r h_a (by decide) rfl _).symm.trans eq_15))
                  subst w_16
                  refine lv_iload_n hx hb dX9_years_76 rfl (lv_at hl 3 rfl) ?_
                  refine lv_iload hx hb dX9_years_77 (lv_at hl 1 rfl) ?_
                  refine lv_iadd hx hb dX9_years_79 ?_
                  refine lv_topi (fun z_17 ez_17 => ?_)
                  have tz_17 : z_17.toInt = v0.toInt + x12_8.toInt := add_t ez_17 (show -2147483648 ≤ v0.toInt + x12_8.toInt by omega) (show v0.toInt + x12_8.toInt < 2147483648 by omega)
                  refine lv_aload_n hx hb dX9_years_80 rfl (lv_at hl 2 rfl) ?_
                  refine t_getr cf_1 hx hb hts hown hK hT h_a (k := 6) (P := fun q => τ q = 25) rfl (fun _ h9 => h9) fl_X9_48 (fun _ h9 => h9) dX9_years_81 (fun q_18 eq_18 hq_18 => ?_)
                  have eq_18 := (hF.r h_a (by decide) rfl _).symm.trans eq_18
                  refine t_callv (runV (As := [.ref q_7, .int z_17, .ref q_18]) (rest := []) ⟨hx, hb, hml, hown, hts⟩ (t_X0_drawYear l D cy base τ G_12 q_14 hq_14 q_7 hq_7 z_17 q_18 hq_18) sV_X9_304 hK (t_recv cf_6 hK hT hq_14) ⟨Nat.le_trans hZ hS.1, hT⟩ ⟨Nat.le_of_ble_eq_true rfl, Nat.le_of_ble_eq_true rfl⟩ rfl hl.1 rfl (Nat.le_of_ble_eq_true rfl) dX9_years_84 ⟨Nat.le_of_ble_eq_true rfl, Nat.le_of_ble_eq_true rfl⟩) hS (fun G_19 H locs hF_19 hr_19 hT hS => ?_)
                  have hF := hF.tr hF_19 rfl
                  refine lv_aload_n hx hb dX9_years_87 rfl (lv_at hl 2 rfl) ?_
                  refine t_getr cf_1 hx hb hts hown hK hT h_a (k := 10) (P := fun q => τ q = 7) rfl (fun _ h9 => h9) fl_X9_67 (fun _ h9 => h9) dX9_years_88 (fun q_20 eq_20 hq_20 => ?_)
                  have w_21 : q_7 = q_20 := Option.some.inj (eq_7.symm.trans ((hF.r h_a (by decide) rfl _).symm.trans eq_20))
                  subst w_21
                  refine lv_iload_n hx hb dX9_years_91 rfl (lv_at hl 5 rfl) ?_
                  refine lv_iload hx hb dX9_years_92 (lv_at hl 6 rfl) ?_
                  refine lv_aload_n hx hb dX9_years_94 rfl (lv_at hl 2 rfl) ?_
                  refine t_getr cf_1 hx hb hts hown hK hT h_a (k := 6) (P := fun q => τ q = 25) rfl (fun _ h9 => h9) fl_X9_48 (fun _ h9 => h9) dX9_years_95 (fun q_22 eq_22 hq_22 => ?_)
                  have w_23 : q_18 = q_22 := Option.some.inj (eq_18.symm.trans ((hF.r h_a (by decide) rfl _).symm.trans eq_22))
                  subst w_23
                  refine lv_iload_n hx hb dX9_years_98 rfl (lv_at hl 5 rfl) ?_
                  refine t_iald (n := 6) (i := v2) rfl (by decide) hx hb hK hT hq_18 (hT.len hq_18 (by decide)) ⟨by omega, by omega⟩ dX9_years_99 (fun z_24 ez_24 rz_24 => ?_)
                  refine pu_calli (runV (As := [.int v2, .int v3, .int z_24]) (rest := []) ⟨hx, hb, hml, hown, hts⟩ (t_X2_wanted l D cy base τ G_19 q_7 hq_7 v2 v3 z_24) sV_X9_163 hK (t_recv cf_7 hK hT hq_7) ⟨Nat.le_trans hZ hS.1, hT⟩ ⟨Nat.le_of_ble_eq_true rfl, Nat.le_of_ble_eq_true rfl⟩ rfl hl.1 rfl (Nat.le_of_ble_eq_true rfl) dX9_years_100 ⟨Nat.le_of_ble_eq_true rfl, Nat.le_of_ble_eq_true rfl⟩) (fun r_25 hr_25 => ?_)
                  refine lv_istore (lv' := [(9, .int r_25), (7, .int x12_7), (8, .int x12_8), (0, .ref a), (1, .int v0), (2, .int v1), (3, .int v2), (4, .int v3), (5, .int v4), (6, .int v5)]) hx hb dX9_years_103 hl (by decide) rfl (fun ls hl => ?_)
                  refine lv_iconst (v := 0) hx hb dX9_years_105 (by decide) ?_
                  refine lv_iload hx hb dX9_years_106 (lv_at hl 0 rfl) ?_
                  refine lv_iload hx hb dX9_years_108 (lv_at hl 8 rfl) ?_
                  refine lv_isub hx hb dX9_years_110 ?_
                  refine lv_topi (fun z_26 ez_26 => ?_)
                  refine va_mmax hx hb (by rw [hml]; exact hl.1.symm) hown (hts _ ml_X9_327) (hts _ st_math_max) (hts _ ini_J9) (hts _ co_math_max) (Nat.le_of_ble_eq_true rfl) (Nat.le_of_ble_eq_true rfl) (Nat.le_of_ble_eq_true rfl) (Nat.le_of_ble_eq_true rfl) dX9_years_111 ?_
                  refine lv_topi (fun z_27 ez_27 => ?_)
                  have tz_27 : (0 ≤ z_27.toInt ∧ z_26.toInt ≤ z_27.toInt ∧ (z_27.toInt = 0 ∨ z_27.toInt = z_26.toInt)) := mmax_t ez_27
                  refine lv_istore (lv' := [(10, .int z_27), (9, .int r_25), (7, .int x12_7), (8, .int x12_8), (0, .ref a), (1, .int v0), (2, .int v1), (3, .int v2), (4, .int v3), (5, .int v4), (6, .int v5)]) hx hb dX9_years_114 hl (by decide) rfl (fun ls hl => ?_)
                  refine lv_iload hx hb dX9_years_116 (lv_at hl 10 rfl) ?_
                  refine lv_if_ne (tgt := 143) hx hb dX9_years_118 (by decide) (fun c_28 => ?_) (fun c_28 => ?_)
                  · skip
                    have tc_28 : ¬ v5.toInt = 0 := fun h => c_28 ((fa_eq _ _).mpr h)
                    refine lv_iload hx hb dX9_years_143 (lv_at hl 10 rfl) ?_
                    refine lv_iconst (v := 1) hx hb dX9_years_145 (by decide) ?_
                    refine lv_icmp_ne (tgt := 159) hx hb dX9_years_146 (by decide) (fun c_29 => ?_) (fun c_29 => ?_)
                    · skip
                      have tc_29 : ¬ v5.toInt = 1 := fun h => c_29 ((fa_eq _ _).mpr h)
                      refine lv_iload hx hb dX9_years_159 (lv_at hl 10 rfl) ?_
                      refine lv_iconst (v := 2) hx hb dX9_years_161 (by decide) ?_
                      refine lv_icmp_ne (tgt := 177) hx hb dX9_years_162 (by decide) (fun c_30 => ?_) (fun c_30 => ?_)
                      · skip
                        have tc_30 : ¬ v5.toInt = 2 := fun h => c_30 ((fa_eq _ _).mpr h)
                        refine lv_iload hx hb dX9_years_177 (lv_at hl 2 rfl) ?_
                        refine lv_iconst (v := 0) hx hb dX9_years_179 (by decide) ?_
                        refine lv_iload hx hb dX9_years_180 (lv_at hl 9 rfl) ?_
                        refine lv_iload hx hb dX9_years_182 (lv_at hl 1 rfl) ?_
                        refine lv_isub hx hb dX9_years_184 ?_
                        refine lv_topi (fun z_31 ez_31 => ?_)
                        refine va_mmax hx hb (by rw [hml]; exact hl.1.symm) hown (hts _ ml_X9_327) (hts _ st_math_max) (hts _ ini_J9) (hts _ co_math_max) (Nat.le_of_ble_eq_true rfl) (Nat.le_of_ble_eq_true rfl) (Nat.le_of_ble_eq_true rfl) (Nat.le_of_ble_eq_true rfl) dX9_years_185 ?_
                        refine lv_topi (fun z_32 ez_32 => ?_)
                        have tz_32 : (0 ≤ z_32.toInt ∧ z_31.toInt ≤ z_32.toInt ∧ (z_32.toInt = 0 ∨ z_32.toInt = z_31.toInt)) := mmax_t ez_32
                        refine lv_iadd hx hb dX9_years_188 ?_
                        refine lv_topi (fun z_33 ez_33 => ?_)
                        refine lv_istore (lv' := [(7, .int z_33), (10, .int z_27), (9, .int r_25), (8, .int x12_8), (0, .ref a), (1, .int v0), (2, .int v1), (3, .int v2), (4, .int v3), (5, .int v4), (6, .int v5)]) hx hb dX9_years_189 hl (by decide) rfl (fun ls hl => ?_)
                        obtain ⟨z_34, ez_34⟩ : ∃ y : Int32, y = x12_8 + 1 := ⟨_, rfl⟩
                        have tz_34 : z_34.toInt = x12_8.toInt + 1 := add_t ez_34 (show -2147483648 ≤ x12_8.toInt + 1 by omega) (show x12_8.toInt + 1 < 2147483648 by omega)
                        refine lv_iinc (v := z_34) (lv' := [(8, .int z_34), (7, .int z_33), (10, .int z_27), (9, .int r_25), (0, .ref a), (1, .int v0), (2, .int v1), (3, .int v2), (4, .int v3), (5, .int v4), (6, .int v5)]) hx hb dX9_years_191 hl (k := 3) rfl (by rw [ez_34]; rfl) (by decide) rfl (fun ls hl => ?_)
                        refine lv_goto (tgt := 62) hx hb dX9_years_194 (by decide) ?_
                        exact ih12 (z_33, z_34, G_19) _ _ _ (by show (100 - z_34.toInt).toNat < (100 - x12_8.toInt).toNat; omega) ⟨(by show 0 ≤ z_34.toInt; omega), (by show z_34.toInt ≤ 100; omega), hF, hT, hS, lv_sub hl [1, 0, 4, 5, 6, 7, 8, 9, 10] rfl⟩
                      · skip
                        have tc_30 : v5.toInt = 2 := (fa_eq _ _).mp c_30
                        refine lv_iload hx hb dX9_years_165 (lv_at hl 2 rfl) ?_
                        refine lv_iload hx hb dX9_years_167 (lv_at hl 0 rfl) ?_
                        refine va_mmax hx hb (by rw [hml]; exact hl.1.symm) hown (hts _ ml_X9_327) (hts _ st_math_max) (hts _ ini_J9) (hts _ co_math_max) (Nat.le_of_ble_eq_true rfl) (Nat.le_of_ble_eq_true rfl) (Nat.le_of_ble_eq_true rfl) (Nat.le_of_ble_eq_true rfl) dX9_years_169 ?_
                        refine lv_topi (fun z_35 ez_35 => ?_)
                        have tz_35 : (x12_7.toInt ≤ z_35.toInt ∧ z_27.toInt ≤ z_35.toInt ∧ (z_35.toInt = x12_7.toInt ∨ z_35.toInt = z_27.toInt)) := mmax_t ez_35
                        refine lv_istore (lv' := [(7, .int z_35), (10, .int z_27), (9, .int r_25), (8, .int x12_8), (0, .ref a), (1, .int v0), (2, .int v1), (3, .int v2), (4, .int v3), (5, .int v4), (6, .int v5)]) hx hb dX9_years_172 hl (by decide) rfl (fun ls hl => ?_)
                        refine lv_goto (tgt := 191) hx hb dX9_years_174 (by decide) ?_
                        obtain ⟨z_36, ez_36⟩ : ∃ y : Int32, y = x12_8 + 1 := ⟨_, rfl⟩
                        have tz_36 : z_36.toInt = x12_8.toInt + 1 := add_t ez_36 (show -2147483648 ≤ x12_8.toInt + 1 by omega) (show x12_8.toInt + 1 < 2147483648 by omega)
                        refine lv_iinc (v := z_36) (lv' := [(8, .int z_36), (7, .int z_35), (10, .int z_27), (9, .int r_25), (0, .ref a), (1, .int v0), (2, .int v1), (3, .int v2), (4, .int v3), (5, .int v4), (6, .int v5)]) hx hb dX9_years_191 hl (k := 3) rfl (by rw [ez_36]; rfl) (by decide) rfl (fun ls hl => ?_)
                        refine lv_goto (tgt := 62) hx hb dX9_years_194 (by decide) ?_
                        exact ih12 (z_35, z_36, G_19) _ _ _ (by show (100 - z_36.toInt).toNat < (100 - x12_8.toInt).toNat; omega) ⟨(by show 0 ≤ z_36.toInt; omega), (by show z_36.toInt ≤ 100; omega), hF, hT, hS, lv_sub hl [1, 0, 4, 5, 6, 7, 8, 9, 10] rfl⟩
                    · skip
                      have tc_29 : v5.toInt = 1 := (fa_eq _ _).mp c_29
                      refine lv_iload hx hb dX9_years_149 (lv_at hl 2 rfl) ?_
                      refine lv_iload hx hb dX9_years_151 (lv_at hl 0 rfl) ?_
                      refine lv_iadd hx hb dX9_years_153 ?_
                      refine lv_topi (fun z_37 ez_37 => ?_)
                      refine lv_istore (lv' := [(7, .int z_37), (10, .int z_27), (9, .int r_25), (8, .int x12_8), (0, .ref a), (1, .int v0), (2, .int v1), (3, .int v2), (4, .int v3), (5, .int v4), (6, .int v5)]) hx hb dX9_years_154 hl (by decide) rfl (fun ls hl => ?_)
                      refine lv_goto (tgt := 191) hx hb dX9_years_156 (by decide) ?_
                      obtain ⟨z_38, ez_38⟩ : ∃ y : Int32, y = x12_8 + 1 := ⟨_, rfl⟩
                      have tz_38 : z_38.toInt = x12_8.toInt + 1 := add_t ez_38 (show -2147483648 ≤ x12_8.toInt + 1 by omega) (show x12_8.toInt + 1 < 2147483648 by omega)
                      refine lv_iinc (v := z_38) (lv' := [(8, .int z_38), (7, .int z_37), (10, .int z_27), (9, .int r_25), (0, .ref a), (1, .int v0), (2, .int v1), (3, .int v2), (4, .int v3), (5, .int v4), (6, .int v5)]) hx hb dX9_years_191 hl (k := 3) rfl (by rw [ez_38]; rfl) (by decide) rfl (fun ls hl => ?_)
                      refine lv_goto (tgt := 62) hx hb dX9_years_194 (by decide) ?_
                      exact ih12 (z_37, z_38, G_19) _ _ _ (by show (100 - z_38.toInt).toNat < (100 - x12_8.toInt).toNat; omega) ⟨(by show 0 ≤ z_38.toInt; omega), (by show z_38.toInt ≤ 100; omega), hF, hT, hS, lv_sub hl [1, 0, 4, 5, 6, 7, 8, 9, 10] rfl⟩
                  · skip
                    have tc_28 : v5.toInt = 0 := (fa_eq _ _).mp c_28
                    refine lv_iload hx hb dX9_years_121 (lv_at hl 2 rfl) ?_
                    refine lv_aload_n hx hb dX9_years_123 rfl (lv_at hl 4 rfl) ?_
                    refine t_getr cf_1 hx hb hts hown hK hT h_a (k := 6) (P := fun q => τ q = 25) rfl (fun _ h9 => h9) fl_X9_48 (fun _ h9 => h9) dX9_years_124 (fun q_39 eq_39 hq_39 => ?_)
                    have w_40 : q_18 = q_39 := Option.some.inj (eq_18.symm.trans ((hF.r h_a (by decide) rfl _).symm.trans eq_39))
                    subst w_40
                    refine lv_iload_n hx hb dX9_years_127 rfl (lv_at hl 7 rfl) ?_
                    refine t_iald (n := 6) (i := v2) rfl (by decide) hx hb hK hT hq_18 (hT.len hq_18 (by decide)) ⟨by omega, by omega⟩ dX9_years_128 (fun z_41 ez_41 rz_41 => ?_)
                    refine lv_if_ne (tgt := 136) hx hb dX9_years_129 (by decide) (fun c_42 => ?_) (fun c_42 => ?_)
                    · skip
                      have tc_42 : ¬ z_41.toInt = 0 := fun h => c_42 ((fa_eq _ _).mpr h)
                      refine lv_iconst (v := 1) hx hb dX9_years_136 (by decide) ?_
                      refine lv_iadd hx hb dX9_years_137 ?_
                      refine lv_topi (fun z_43 ez_43 => ?_)
                      refine lv_istore (lv' := [(7, .int z_43), (10, .int z_27), (9, .int r_25), (8, .int x12_8), (0, .ref a), (1, .int v0), (2, .int v1), (3, .int v2), (4, .int v3), (5, .int v4), (6, .int v5)]) hx hb dX9_years_138 hl (by decide) rfl (fun ls hl => ?_)
                      refine lv_goto (tgt := 191) hx hb dX9_years_140 (by decide) ?_
                      obtain ⟨z_44, ez_44⟩ : ∃ y : Int32, y = x12_8 + 1 := ⟨_, rfl⟩
                      have tz_44 : z_44.toInt = x12_8.toInt + 1 := add_t ez_44 (show -2147483648 ≤ x12_8.toInt + 1 by omega) (show x12_8.toInt + 1 < 2147483648 by omega)
                      refine lv_iinc (v := z_44) (lv' := [(8, .int z_44), (7, .int z_43), (10, .int z_27), (9, .int r_25), (0, .ref a), (1, .int v0), (2, .int v1), (3, .int v2), (4, .int v3), (5, .int v4), (6, .int v5)]) hx hb dX9_years_191 hl (k := 3) rfl (by rw [ez_44]; rfl) (by decide) rfl (fun ls hl => ?_)
                      refine lv_goto (tgt := 62) hx hb dX9_years_194 (by decide) ?_
                      exact ih12 (z_43, z_44, G_19) _ _ _ (by show (100 - z_44.toInt).toNat < (100 - x12_8.toInt).toNat; omega) ⟨(by show 0 ≤ z_44.toInt; omega), (by show z_44.toInt ≤ 100; omega), hF, hT, hS, lv_sub hl [1, 0, 4, 5, 6, 7, 8, 9, 10] rfl⟩
                    · skip
                      have tc_42 : z_41.toInt = 0 := (fa_eq _ _).mp c_42
                      refine lv_iconst (v := 0) hx hb dX9_years_132 (by decide) ?_
                      refine lv_goto (tgt := 137) hx hb dX9_years_133 (by decide) ?_
                      refine lv_iadd hx hb dX9_years_137 ?_
                      refine lv_topi (fun z_45 ez_45 => ?_)
                      refine lv_istore (lv' := [(7, .int z_45), (10, .int z_27), (9, .int r_25), (8, .int x12_8), (0, .ref a), (1, .int v0), (2, .int v1), (3, .int v2), (4, .int v3), (5, .int v4), (6, .int v5)]) hx hb dX9_years_138 hl (by decide) rfl (fun ls hl => ?_)
                      refine lv_goto (tgt := 191) hx hb dX9_years_140 (by decide) ?_
                      obtain ⟨z_46, ez_46⟩ : ∃ y : Int32, y = x12_8 + 1 := ⟨_, rfl⟩
                      have tz_46 : z_46.toInt = x12_8.toInt + 1 := add_t ez_46 (show -2147483648 ≤ x12_8.toInt + 1 by omega) (show x12_8.toInt + 1 < 2147483648 by omega)
                      refine lv_iinc (v := z_46) (lv' := [(8, .int z_46), (7, .int z_45), (10, .int z_27), (9, .int r_25), (0, .ref a), (1, .int v0), (2, .int v1), (3, .int v2), (4, .int v3), (5, .int v4), (6, .int v5)]) hx hb dX9_years_191 hl (k := 3) rfl (by rw [ez_46]; rfl) (by decide) rfl (fun ls hl => ?_)
                      refine lv_goto (tgt := 62) hx hb dX9_years_194 (by decide) ?_
                      exact ih12 (z_45, z_46, G_19) _ _ _ (by show (100 - z_46.toInt).toNat < (100 - x12_8.toInt).toNat; omega) ⟨(by show 0 ≤ z_46.toInt; omega), (by show z_46.toInt ≤ 100; omega), hF, hT, hS, lv_sub hl [1, 0, 4, 5, 6, 7, 8, 9, 10] rfl⟩
              · skip
                have er_10 := hr_10_1
                subst er_10
                refine W.eq (g2 := F0 m 50 ls [.int 0]) rfl ?_
                refine lv_if_ne (tgt := 56) hx hb dX9_years_50 (by decide) (fun c_47 => absurd rfl c_47) (fun _ => ?_)
                refine lv_bipush (v := (-2)) hx hb dX9_years_53 (by decide) ?_
                exact ret_i hx hb hr hlocks ⟨⟨hS.1, hS.2.1⟩, G, hF, ⟨_, rfl, trivial⟩, hT⟩ hS.2.2 (Nat.le_of_ble_eq_true rfl) (Nat.le_of_ble_eq_true rfl) dX9_years_55
            · skip
              have er_8 := hr_8_1
              subst er_8
              refine W.eq (g2 := F0 m 42 ls [.int 0]) rfl ?_
              refine lv_if_eq (tgt := 53) hx hb dX9_years_42 (by decide) (fun _ => ?_) (fun c_48 => absurd (by decide) c_48)
              refine lv_bipush (v := (-2)) hx hb dX9_years_53 (by decide) ?_
              exact ret_i hx hb hr hlocks ⟨⟨hS.1, hS.2.1⟩, G, hF, ⟨_, rfl, trivial⟩, hT⟩ hS.2.2 (Nat.le_of_ble_eq_true rfl) (Nat.le_of_ble_eq_true rfl) dX9_years_55
          · skip
            have tc_6 : ¬ v5.toInt ≤ 3 := fun h => c_6 ((fa_le _ _).mpr h)
            have mc_6 : v5.toInt ≤ 2147483647 := max_t v5
            refine lv_bipush (v := (-2)) hx hb dX9_years_29 (by decide) ?_
            exact ret_i hx hb hr hlocks ⟨⟨hS.1, hS.2.1⟩, G, hF, ⟨_, rfl, trivial⟩, hT⟩ hS.2.2 (Nat.le_of_ble_eq_true rfl) (Nat.le_of_ble_eq_true rfl) dX9_years_31
  · skip
    have er_1 := hr_1_1
    subst er_1
    refine W.eq (g2 := F0 m 4 ls [.int 0]) rfl ?_
    refine lv_if_eq (tgt := 29) hx hb dX9_years_4 (by decide) (fun _ => ?_) (fun c_49 => absurd (by decide) c_49)
    refine lv_bipush (v := (-2)) hx hb dX9_years_29 (by decide) ?_
    exact ret_i hx hb hr hlocks ⟨⟨hS.1, hS.2.1⟩, G, hF, ⟨_, rfl, trivial⟩, hT⟩ hS.2.2 (Nat.le_of_ble_eq_true rfl) (Nat.le_of_ble_eq_true rfl) dX9_years_31
set_option maxHeartbeats 4000000 in
set_option maxRecDepth 100000 in
theorem t_X9_count (l : Launch) (D : va_G) (cy : Nat → ClassId) (base : Nat) (τ : Nat → Nat) (G : Gh) (a : Nat) (h_a : τ a = 1) (v0 : Int32) : MM l yX9_count cX9_count 2 (some .int) 1 0 0 D cy [.ref a, .int v0] (PT D cy base τ G) (PuI (fun r => True)) noF := by
  refine MM.of (by decide) (Nat.le_of_ble_eq_true rfl) ?_
  intro p e s m below meth c C hPT ls hl
  obtain ⟨hx, hb, hr, hml, hown, hts, hlocks, hK, hnm⟩ := C
  obtain ⟨hZ, hT⟩ := hPT
  have hS : va_S (RA base) s.heap s.heap [] := va_S.rf
  have hl : lv_has ls 2 [(0, .ref a), (1, .int v0)] := hl
  refine lv_iload_n hx hb dX9_count_0 rfl (lv_at hl 1 rfl) ?_
  by_cases sw_1 : v0.toInt < 0 ∨ 7 < v0.toInt
  · skip
    refine lv_tableOut (tgt := 111) hx hb dX9_count_1 sw_1 (by decide) ?_
    refine lv_iconst (v := (-1)) hx hb dX9_count_111 (by decide) ?_
    exact ret_i hx hb hr hlocks ⟨rfl, _, rfl, trivial⟩ (fun _ h => absurd h List.not_mem_nil) (Nat.le_refl _) (Nat.le_refl _) dX9_count_112
  · skip
    rcases (show v0.toInt = 0 ∨ v0.toInt = 1 ∨ v0.toInt = 2 ∨ v0.toInt = 3 ∨ v0.toInt = 4 ∨ v0.toInt = 5 ∨ v0.toInt = 6 ∨ v0.toInt = 7 by omega) with sw_1_0 | sw_1_1 | sw_1_2 | sw_1_3 | sw_1_4 | sw_1_5 | sw_1_6 | sw_1_7
    · skip
      refine lv_tableIn (tgt := 48) hx hb dX9_count_1 (by omega) (by omega) (by rw [sw_1_0]; rfl) (by decide) ?_
      refine lv_aload_n hx hb dX9_count_48 rfl (lv_at hl 0 rfl) ?_
      refine t_getr cf_1 hx hb hts hown hK hT h_a (k := 10) (P := fun q => τ q = 7) rfl (fun _ h9 => h9) fl_X9_67 (fun _ h9 => h9) dX9_count_49 (fun q_2 eq_2 hq_2 => ?_)
      refine t_geti cf_7 hx hb hts hown hK hT hq_2 (k := 6) rfl fl_X9_137 (fun _ h9 => h9) dX9_count_52 (fun z_3 ez_3 rz_3 => ?_)
      have ez_3 : z_3 = G.1 q_2 6 := ez_3
      have rz_3 : 0 ≤ z_3.toInt ∧ z_3.toInt ≤ 6 := rz_3
      exact ret_i hx hb hr hlocks ⟨rfl, _, rfl, trivial⟩ (fun _ h => absurd h List.not_mem_nil) (Nat.le_refl _) (Nat.le_refl _) dX9_count_55
    · skip
      refine lv_tableIn (tgt := 56) hx hb dX9_count_1 (by omega) (by omega) (by rw [sw_1_1]; rfl) (by decide) ?_
      refine lv_aload_n hx hb dX9_count_56 rfl (lv_at hl 0 rfl) ?_
      refine t_getr cf_1 hx hb hts hown hK hT h_a (k := 10) (P := fun q => τ q = 7) rfl (fun _ h9 => h9) fl_X9_67 (fun _ h9 => h9) dX9_count_57 (fun q_4 eq_4 hq_4 => ?_)
      refine t_geti cf_7 hx hb hts hown hK hT hq_4 (k := 5) rfl fl_X9_202 (fun _ h9 => h9) dX9_count_60 (fun z_5 ez_5 rz_5 => ?_)
      have ez_5 : z_5 = G.1 q_4 5 := ez_5
      have rz_5 : 0 ≤ z_5.toInt ∧ z_5.toInt ≤ 3 := rz_5
      exact ret_i hx hb hr hlocks ⟨rfl, _, rfl, trivial⟩ (fun _ h => absurd h List.not_mem_nil) (Nat.le_refl _) (Nat.le_refl _) dX9_count_63
    · skip
      refine lv_tableIn (tgt := 64) hx hb dX9_count_1 (by omega) (by omega) (by rw [sw_1_2]; rfl) (by decide) ?_
      refine lv_aload_n hx hb dX9_count_64 rfl (lv_at hl 0 rfl) ?_
      refine t_getr cf_1 hx hb hts hown hK hT h_a (k := 10) (P := fun q => τ q = 7) rfl (fun _ h9 => h9) fl_X9_67 (fun _ h9 => h9) dX9_count_65 (fun q_6 eq_6 hq_6 => ?_)
      refine t_geti cf_7 hx hb hts hown hK hT hq_6 (k := 1) rfl fl_X9_155 (fun _ h9 => h9) dX9_count_68 (fun z_7 ez_7 rz_7 => ?_)
      have ez_7 : z_7 = G.1 q_6 1 := ez_7
      have rz_7 : 0 ≤ z_7.toInt ∧ z_7.toInt ≤ 60 := rz_7
      exact ret_i hx hb hr hlocks ⟨rfl, _, rfl, trivial⟩ (fun _ h => absurd h List.not_mem_nil) (Nat.le_refl _) (Nat.le_refl _) dX9_count_71
    · skip
      refine lv_tableIn (tgt := 72) hx hb dX9_count_1 (by omega) (by omega) (by rw [sw_1_3]; rfl) (by decide) ?_
      refine lv_aload_n hx hb dX9_count_72 rfl (lv_at hl 0 rfl) ?_
      refine t_getr cf_1 hx hb hts hown hK hT h_a (k := 10) (P := fun q => τ q = 7) rfl (fun _ h9 => h9) fl_X9_67 (fun _ h9 => h9) dX9_count_73 (fun q_8 eq_8 hq_8 => ?_)
      refine t_geti cf_7 hx hb hts hown hK hT hq_8 (k := 0) rfl fl_X9_96 (fun _ h9 => h9) dX9_count_76 (fun z_9 ez_9 rz_9 => ?_)
      have ez_9 : z_9 = G.1 q_8 0 := ez_9
      exact ret_i hx hb hr hlocks ⟨rfl, _, rfl, trivial⟩ (fun _ h => absurd h List.not_mem_nil) (Nat.le_refl _) (Nat.le_refl _) dX9_count_79
    · skip
      refine lv_tableIn (tgt := 80) hx hb dX9_count_1 (by omega) (by omega) (by rw [sw_1_4]; rfl) (by decide) ?_
      refine lv_aload_n hx hb dX9_count_80 rfl (lv_at hl 0 rfl) ?_
      refine t_getr cf_1 hx hb hts hown hK hT h_a (k := 10) (P := fun q => τ q = 7) rfl (fun _ h9 => h9) fl_X9_67 (fun _ h9 => h9) dX9_count_81 (fun q_10 eq_10 hq_10 => ?_)
      refine t_geti cf_7 hx hb hts hown hK hT hq_10 (k := 7) rfl fl_X9_352 (fun _ h9 => h9) dX9_count_84 (fun z_11 ez_11 rz_11 => ?_)
      have ez_11 : z_11 = G.1 q_10 7 := ez_11
      exact ret_i hx hb hr hlocks ⟨rfl, _, rfl, trivial⟩ (fun _ h => absurd h List.not_mem_nil) (Nat.le_refl _) (Nat.le_refl _) dX9_count_87
    · skip
      refine lv_tableIn (tgt := 88) hx hb dX9_count_1 (by omega) (by omega) (by rw [sw_1_5]; rfl) (by decide) ?_
      refine lv_aload_n hx hb dX9_count_88 rfl (lv_at hl 0 rfl) ?_
      refine t_geti cf_1 hx hb hts hown hK hT h_a (k := 9) rfl fl_X9_75 (fun _ h9 => h9) dX9_count_89 (fun z_12 ez_12 rz_12 => ?_)
      have ez_12 : z_12 = G.1 a 9 := ez_12
      have rz_12 : 0 ≤ z_12.toInt ∧ z_12.toInt ≤ 1600 := rz_12
      exact ret_i hx hb hr hlocks ⟨rfl, _, rfl, trivial⟩ (fun _ h => absurd h List.not_mem_nil) (Nat.le_refl _) (Nat.le_refl _) dX9_count_92
    · skip
      refine lv_tableIn (tgt := 93) hx hb dX9_count_1 (by omega) (by omega) (by rw [sw_1_6]; rfl) (by decide) ?_
      refine lv_aload_n hx hb dX9_count_93 rfl (lv_at hl 0 rfl) ?_
      refine t_getn cf_1 hx hb hts hown hK hT h_a (k := 11) (P := fun q => τ q = 25) rfl (fun _ h9 => h9) fl_X9_93 (fun _ h9 => h9) dX9_count_94 (fun eq_13 => ?_) (fun q_13 eq_13 hq_13 => ?_)
      · skip
        refine lv_ifnonnullN hx hb dX9_count_97 ?_
        refine lv_iconst (v := 0) hx hb dX9_count_100 (by decide) ?_
        refine lv_goto (tgt := 105) hx hb dX9_count_101 (by decide) ?_
        exact ret_i hx hb hr hlocks ⟨rfl, _, rfl, trivial⟩ (fun _ h => absurd h List.not_mem_nil) (Nat.le_refl _) (Nat.le_refl _) dX9_count_105
      · skip
        refine lv_ifnonnull (tgt := 104) hx hb dX9_count_97 (by decide) ?_
        refine lv_iconst (v := 1) hx hb dX9_count_104 (by decide) ?_
        exact ret_i hx hb hr hlocks ⟨rfl, _, rfl, trivial⟩ (fun _ h => absurd h List.not_mem_nil) (Nat.le_refl _) (Nat.le_refl _) dX9_count_105
    · skip
      refine lv_tableIn (tgt := 106) hx hb dX9_count_1 (by omega) (by omega) (by rw [sw_1_7]; rfl) (by decide) ?_
      refine lv_aload_n hx hb dX9_count_106 rfl (lv_at hl 0 rfl) ?_
      refine pu_calli (runV (As := []) (rest := []) ⟨hx, hb, hml, hown, hts⟩ (t_X9_slotsInUse l D cy base τ G a h_a) sV_X9_355 hK (t_recv cf_1 hK hT h_a) ⟨Nat.le_trans hZ hS.1, hT⟩ ⟨Nat.le_of_ble_eq_true rfl, Nat.le_of_ble_eq_true rfl⟩ rfl hl.1 rfl (Nat.le_of_ble_eq_true rfl) dX9_count_107 ⟨Nat.le_of_ble_eq_true rfl, Nat.le_of_ble_eq_true rfl⟩) (fun r_14 hr_14 => ?_)
      exact ret_i hx hb hr hlocks ⟨rfl, _, rfl, trivial⟩ (fun _ h => absurd h List.not_mem_nil) (Nat.le_refl _) (Nat.le_refl _) dX9_count_110
set_option maxHeartbeats 4000000 in
set_option maxRecDepth 100000 in
theorem t_X9_back (l : Launch) (D : va_G) (cy : Nat → ClassId) (base : Nat) (τ : Nat → Nat) (G : Gh) (a : Nat) (h_a : τ a = 1) (v0 : Int32) : MM l yX9_back cX9_back 3 (some .int) 0 0 0 D cy [.ref a, .int v0] (PT D cy base τ G) (QT D cy base τ G [1001] (fun v g => ∃ r : Int32, v = some (.int r) ∧ (True))) (RA base) := by
  refine MM.of (by decide) (Nat.le_of_ble_eq_true rfl) ?_
  intro p e s m below meth c C hPT ls hl
  obtain ⟨hx, hb, hr, hml, hown, hts, hlocks, hK, hnm⟩ := C
  obtain ⟨hZ, hT⟩ := hPT
  have hS : va_S (RA base) s.heap s.heap [] := va_S.rf
  have hF : Fr τ [1001] G G := Fr.rf
  have hl : lv_has ls 3 [(0, .ref a), (1, .int v0)] := hl
  refine lv_iload_n hx hb dX9_back_0 rfl (lv_at hl 1 rfl) ?_
  refine lv_if_lt (tgt := 9) hx hb dX9_back_1 (by decide) (fun c_1 => ?_) (fun c_1 => ?_)
  · skip
    have tc_1 : v0.toInt < 0 := (fa_lt _ _).mp c_1
    refine lv_bipush (v := (-2)) hx hb dX9_back_9 (by decide) ?_
    exact ret_i hx hb hr hlocks ⟨⟨hS.1, hS.2.1⟩, G, hF, ⟨_, rfl, trivial⟩, hT⟩ hS.2.2 (Nat.le_of_ble_eq_true rfl) (Nat.le_of_ble_eq_true rfl) dX9_back_11
  · skip
    have tc_1 : ¬ v0.toInt < 0 := fun h => c_1 ((fa_lt _ _).mpr h)
    refine lv_iload_n hx hb dX9_back_4 rfl (lv_at hl 1 rfl) ?_
    refine lv_iconst (v := 3) hx hb dX9_back_5 (by decide) ?_
    refine lv_icmp_lt (tgt := 12) hx hb dX9_back_6 (by decide) (fun c_2 => ?_) (fun c_2 => ?_)
    · skip
      have tc_2 : v0.toInt < 3 := (fa_lt _ _).mp c_2
      refine lv_aload_n hx hb dX9_back_12 rfl (lv_at hl 0 rfl) ?_
      refine t_getr cf_1 hx hb hts hown hK hT h_a (k := 8) (P := fun q => τ q = 24) rfl (fun _ h9 => h9) fl_X9_60 (fun _ h9 => h9) dX9_back_13 (fun q_3 eq_3 hq_3 => ?_)
      refine lv_iload_n hx hb dX9_back_16 rfl (lv_at hl 1 rfl) ?_
      refine t_aald5 (n := 3) (i := v0) (P := fun q => τ q = 10) rfl (by decide) hx hb hK hT hq_3 (hT.len hq_3 (by decide)) ⟨by omega, by omega⟩ (fun _ _ h9 => h9) dX9_back_17 (fun eq_4 => ?_) (fun q_4 eq_4 hq_4 => ?_)
      · skip
        refine lv_astore_nN (lv' := [(2, .null), (0, .ref a), (1, .int v0)]) hx hb dX9_back_18 rfl hl (by decide) rfl (fun ls hl => ?_)
        refine lv_aload_nN hx hb dX9_back_19 rfl (lv_at hl 0 rfl) ?_
        refine lv_ifnonnullN hx hb dX9_back_20 ?_
        refine lv_bipush (v := (-6)) hx hb dX9_back_23 (by decide) ?_
        exact ret_i hx hb hr hlocks ⟨⟨hS.1, hS.2.1⟩, G, hF, ⟨_, rfl, trivial⟩, hT⟩ hS.2.2 (Nat.le_of_ble_eq_true rfl) (Nat.le_of_ble_eq_true rfl) dX9_back_25
      · skip
        refine lv_astore_n (lv' := [(2, .ref q_4), (0, .ref a), (1, .int v0)]) hx hb dX9_back_18 rfl hl (by decide) rfl (fun ls hl => ?_)
        refine lv_aload_n hx hb dX9_back_19 rfl (lv_at hl 0 rfl) ?_
        refine lv_ifnonnull (tgt := 26) hx hb dX9_back_20 (by decide) ?_
        refine lv_aload_n hx hb dX9_back_26 rfl (lv_at hl 1 rfl) ?_
        refine lv_aload_n hx hb dX9_back_27 rfl (lv_at hl 0 rfl) ?_
        refine t_getr cf_10 hx hb hts hown hK hT hq_4 (k := 0) (P := fun q => τ q = 7) rfl (fun _ h9 => h9) fl_X9_362 (fun _ h9 => h9) dX9_back_28 (fun q_5 eq_5 hq_5 => ?_)
        refine t_putr cf_1 hx hb hts hown hK hT hS h_a (k := 10) rfl ⟨_, rfl, hq_5⟩ fl_X9_67 (fun _ h9 => h9) rfl rfl rfl dX9_back_31 (fun H locs G_6 eG_6 hT hS => ?_)
        have hF := hF.wR eG_6 h_a rfl
        refine lv_aload_n hx hb dX9_back_34 rfl (lv_at hl 1 rfl) ?_
        refine lv_aload_n hx hb dX9_back_35 rfl (lv_at hl 0 rfl) ?_
        refine t_getn cf_10 hx hb hts hown hK hT hq_4 (k := 1) (P := fun q => τ q = 25) rfl (fun _ h9 => h9) fl_X9_363 (fun _ h9 => h9) dX9_back_36 (fun eq_7 => ?_) (fun q_7 eq_7 hq_7 => ?_)
        · skip
          have eq_7 := (hF.r hq_4 (by decide) rfl _).symm.trans eq_7
          refine t_putn cf_1 hx hb hts hown hK hT hS h_a (k := 11) rfl (Or.inl rfl) fl_X9_93 (fun _ h9 => h9) rfl rfl rfl dX9_back_39 (fun H locs G_8 eG_8 hT hS => ?_)
          have hF := hF.wR eG_8 h_a rfl
          refine lv_iconst (v := 0) hx hb dX9_back_42 (by decide) ?_
          exact ret_i hx hb hr hlocks ⟨⟨hS.1, hS.2.1⟩, G_8, hF, ⟨_, rfl, trivial⟩, hT⟩ hS.2.2 (Nat.le_of_ble_eq_true rfl) (Nat.le_of_ble_eq_true rfl) dX9_back_43
        · skip
          have eq_7 := (hF.r hq_4 (by decide) rfl _).symm.trans eq_7
          refine t_putr cf_1 hx hb hts hown hK hT hS h_a (k := 11) rfl (Or.inr ⟨_, rfl, hq_7⟩) fl_X9_93 (fun _ h9 => h9) rfl rfl rfl dX9_back_39 (fun H locs G_9 eG_9 hT hS => ?_)
          have hF := hF.wR eG_9 h_a rfl
          refine lv_iconst (v := 0) hx hb dX9_back_42 (by decide) ?_
          exact ret_i hx hb hr hlocks ⟨⟨hS.1, hS.2.1⟩, G_9, hF, ⟨_, rfl, trivial⟩, hT⟩ hS.2.2 (Nat.le_of_ble_eq_true rfl) (Nat.le_of_ble_eq_true rfl) dX9_back_43
    · skip
      have tc_2 : ¬ v0.toInt < 3 := fun h => c_2 ((fa_lt _ _).mpr h)
      refine lv_bipush (v := (-2)) hx hb dX9_back_9 (by decide) ?_
      exact ret_i hx hb hr hlocks ⟨⟨hS.1, hS.2.1⟩, G, hF, ⟨_, rfl, trivial⟩, hT⟩ hS.2.2 (Nat.le_of_ble_eq_true rfl) (Nat.le_of_ble_eq_true rfl) dX9_back_11
set_option maxHeartbeats 4000000 in
set_option maxRecDepth 100000 in
theorem t_X9_write (l : Launch) (D : va_G) (cy : Nat → ClassId) (base : Nat) (τ : Nat → Nat) (G : Gh) (a : Nat) (h_a : τ a = 1) (v0 : Int32) (v1 : Int32) (v2 : Int64) : MM l yX9_write cX9_write 6 (some .int) 1 0 0 D cy [.ref a, .int v0, .int v1, .long v2] (PT D cy base τ G) (QT D cy base τ G [40] (fun v g => ∃ r : Int32, v = some (.int r) ∧ (True))) (RA base) := by
  refine MM.of (by decide) (Nat.le_of_ble_eq_true rfl) ?_
  intro p e s m below meth c C hPT ls hl
  obtain ⟨hx, hb, hr, hml, hown, hts, hlocks, hK, hnm⟩ := C
  obtain ⟨hZ, hT⟩ := hPT
  have hS : va_S (RA base) s.heap s.heap [] := va_S.rf
  have hF : Fr τ [40] G G := Fr.rf
  have hl : lv_has ls 6 [(0, .ref a), (1, .int v0), (2, .int v1), (3, .long v2)] := hl
  refine lv_iload_n hx hb dX9_write_0 rfl (lv_at hl 1 rfl) ?_
  refine pu_calli (runS (As := [.int v0]) (rest := []) ⟨hx, hb, hml, hown, hts⟩ (t_X9_isSlot l D cy base τ G v0) sS_X9_312 hK ⟨Nat.le_trans hZ hS.1, hT⟩ ⟨Nat.le_of_ble_eq_true rfl, Nat.le_of_ble_eq_true rfl⟩ rfl hl.1 rfl (Nat.le_of_ble_eq_true rfl) dX9_write_1 ⟨Nat.le_of_ble_eq_true rfl, Nat.le_of_ble_eq_true rfl⟩) (fun r_1 hr_1 => ?_)
  have hr_1_c := hr_1
  rcases hr_1_c with hr_1_0 | hr_1_1
  · skip
    obtain ⟨er_1, hr_1_0_f0, hr_1_0_f1⟩ := hr_1_0
    have hr_1_0_f0 : 0 ≤ v0.toInt := hr_1_0_f0
    have hr_1_0_f1 : v0.toInt ≤ 3 := hr_1_0_f1
    subst er_1
    refine W.eq (g2 := F0 m 4 ls [.int 1]) rfl ?_
    refine lv_if_ne (tgt := 10) hx hb dX9_write_4 (by decide) (fun _ => ?_) (fun c_2 => absurd c_2 (by decide))
    refine lv_aload_n hx hb dX9_write_10 rfl (lv_at hl 0 rfl) ?_
    refine t_getr cf_1 hx hb hts hown hK hT h_a (k := 7) (P := fun q => τ q = 23) rfl (fun _ h9 => h9) fl_X9_54 (fun _ h9 => h9) dX9_write_11 (fun q_3 eq_3 hq_3 => ?_)
    refine lv_iload_n hx hb dX9_write_14 rfl (lv_at hl 1 rfl) ?_
    refine t_aald4 (n := 4) (i := v0) (P := fun q => τ q = 9) rfl (by decide) hx hb hK hT hq_3 (hT.len hq_3 (by decide)) ⟨by omega, by omega⟩ (fun _ _ h9 => h9) dX9_write_15 (fun eq_4 => ?_) (fun q_4 eq_4 hq_4 => ?_)
    · skip
      refine lv_astoreN (lv' := [(5, .null), (0, .ref a), (1, .int v0), (2, .int v1), (3, .long v2)]) hx hb dX9_write_16 hl (by decide) rfl (fun ls hl => ?_)
      refine lv_aloadN hx hb dX9_write_18 (lv_at hl 0 rfl) ?_
      refine lv_ifnonnullN hx hb dX9_write_20 ?_
      refine lv_bipush (v := (-6)) hx hb dX9_write_23 (by decide) ?_
      exact ret_i hx hb hr hlocks ⟨⟨hS.1, hS.2.1⟩, G, hF, ⟨_, rfl, trivial⟩, hT⟩ hS.2.2 (Nat.le_of_ble_eq_true rfl) (Nat.le_of_ble_eq_true rfl) dX9_write_25
    · skip
      refine lv_astore (lv' := [(5, .ref q_4), (0, .ref a), (1, .int v0), (2, .int v1), (3, .long v2)]) hx hb dX9_write_16 hl (by decide) rfl (fun ls hl => ?_)
      refine lv_aload hx hb dX9_write_18 (lv_at hl 0 rfl) ?_
      refine lv_ifnonnull (tgt := 26) hx hb dX9_write_20 (by decide) ?_
      refine lv_iload_n hx hb dX9_write_26 rfl (lv_at hl 3 rfl) ?_
      refine lv_if_lt (tgt := 40) hx hb dX9_write_27 (by decide) (fun c_5 => ?_) (fun c_5 => ?_)
      · skip
        have tc_5 : v1.toInt < 0 := (fa_lt _ _).mp c_5
        refine lv_bipush (v := (-7)) hx hb dX9_write_40 (by decide) ?_
        exact ret_i hx hb hr hlocks ⟨⟨hS.1, hS.2.1⟩, G, hF, ⟨_, rfl, trivial⟩, hT⟩ hS.2.2 (Nat.le_of_ble_eq_true rfl) (Nat.le_of_ble_eq_true rfl) dX9_write_42
      · skip
        have tc_5 : ¬ v1.toInt < 0 := fun h => c_5 ((fa_lt _ _).mpr h)
        refine lv_iload_n hx hb dX9_write_30 rfl (lv_at hl 3 rfl) ?_
        refine lv_aload hx hb dX9_write_31 (lv_at hl 0 rfl) ?_
        refine t_getr cf_9 hx hb hts hown hK hT hq_4 (k := 1) (P := fun q => τ q = 40) rfl (fun _ h9 => h9) fl_X9_315 (fun _ h9 => h9) dX9_write_33 (fun q_6 eq_6 hq_6 => ?_)
        obtain ⟨n_7, en_7⟩ : ∃ y : Nat, y = G.2.2.2 q_6 := ⟨_, rfl⟩
        have rn_7 : n_7 ≤ 60 := by rw [en_7]; exact hT.len hq_6 (by decide)
        refine t_alen (v := Int32.ofNat n_7) rfl (by decide) hx hb hK hT hq_6 rfl (by rw [show _ = n_7 from (en_7.symm)]) dX9_write_36 ?_
        refine lv_topi (fun z_8 ez_8 => ?_)
        have tz_8 : z_8.toInt = n_7 := len_t ez_8 (by omega)
        refine lv_icmp_lt (tgt := 43) hx hb dX9_write_37 (by decide) (fun c_9 => ?_) (fun c_9 => ?_)
        · skip
          have tc_9 : v1.toInt < z_8.toInt := (fa_lt _ _).mp c_9
          refine lv_aload hx hb dX9_write_43 (lv_at hl 0 rfl) ?_
          refine t_getr cf_9 hx hb hts hown hK hT hq_4 (k := 1) (P := fun q => τ q = 40) rfl (fun _ h9 => h9) fl_X9_315 (fun _ h9 => h9) dX9_write_45 (fun q_10 eq_10 hq_10 => ?_)
          have w_11 : q_6 = q_10 := Option.some.inj (eq_6.symm.trans eq_10)
          subst w_11
          refine lv_iload_n hx hb dX9_write_48 rfl (lv_at hl 3 rfl) ?_
          refine lv_aload hx hb dX9_write_49 (lv_at hl 0 rfl) ?_
          refine lv_lload_n hx hb dX9_write_51 rfl (lv_at hl 4 rfl) ?_
          refine pu_calll (runV (As := [.long v2]) (rest := [.int v1, .ref q_6]) ⟨hx, hb, hml, hown, hts⟩ (t_X6_narrowed l D cy base τ G q_4 hq_4 v2) sV_X9_367 hK (t_recv cf_9 hK hT hq_4) ⟨Nat.le_trans hZ hS.1, hT⟩ ⟨Nat.le_of_ble_eq_true rfl, Nat.le_of_ble_eq_true rfl⟩ rfl hl.1 rfl (Nat.le_of_ble_eq_true rfl) dX9_write_52 ⟨Nat.le_of_ble_eq_true rfl, Nat.le_of_ble_eq_true rfl⟩) (fun r_12 hr_12 => ?_)
          refine t_last (n := n_7) (i := v1) (x := r_12) rfl (by decide) hx hb hK hT hS hq_6 (en_7.symm) ⟨by omega, by omega⟩ dX9_write_55 (fun H locs G_13 eG_13 hT hS => ?_)
          have hF := hF.wL eG_13 hq_6 rfl
          refine lv_iconst (v := 0) hx hb dX9_write_56 (by decide) ?_
          exact ret_i hx hb hr hlocks ⟨⟨hS.1, hS.2.1⟩, G_13, hF, ⟨_, rfl, trivial⟩, hT⟩ hS.2.2 (Nat.le_of_ble_eq_true rfl) (Nat.le_of_ble_eq_true rfl) dX9_write_57
        · skip
          have tc_9 : ¬ v1.toInt < z_8.toInt := fun h => c_9 ((fa_lt _ _).mpr h)
          refine lv_bipush (v := (-7)) hx hb dX9_write_40 (by decide) ?_
          exact ret_i hx hb hr hlocks ⟨⟨hS.1, hS.2.1⟩, G, hF, ⟨_, rfl, trivial⟩, hT⟩ hS.2.2 (Nat.le_of_ble_eq_true rfl) (Nat.le_of_ble_eq_true rfl) dX9_write_42
  · skip
    have er_1 := hr_1_1
    subst er_1
    refine W.eq (g2 := F0 m 4 ls [.int 0]) rfl ?_
    refine lv_if_ne (tgt := 10) hx hb dX9_write_4 (by decide) (fun c_14 => absurd rfl c_14) (fun _ => ?_)
    refine lv_bipush (v := (-2)) hx hb dX9_write_7 (by decide) ?_
    exact ret_i hx hb hr hlocks ⟨⟨hS.1, hS.2.1⟩, G, hF, ⟨_, rfl, trivial⟩, hT⟩ hS.2.2 (Nat.le_of_ble_eq_true rfl) (Nat.le_of_ble_eq_true rfl) dX9_write_9
set_option maxHeartbeats 4000000 in
set_option maxRecDepth 100000 in
theorem t_X9_paste (l : Launch) (D : va_G) (cy : Nat → ClassId) (base : Nat) (τ : Nat → Nat) (G : Gh) (a : Nat) (h_a : τ a = 1) (v0 : Int32) (v1 : Int32) (v2 : Int32) (v3 : Int32) (v4 : Int32) : MM l yX9_paste cX9_paste 8 (some .int) 1 0 0 D cy [.ref a, .int v0, .int v1, .int v2, .int v3, .int v4] (PT D cy base τ G) (QT D cy base τ G [40] (fun v g => ∃ r : Int32, v = some (.int r) ∧ (True))) (RA base) := by
  refine MM.of (by decide) (Nat.le_of_ble_eq_true rfl) ?_
  intro p e s m below meth c C hPT ls hl
  obtain ⟨hx, hb, hr, hml, hown, hts, hlocks, hK, hnm⟩ := C
  obtain ⟨hZ, hT⟩ := hPT
  have hS : va_S (RA base) s.heap s.heap [] := va_S.rf
  have hF : Fr τ [40] G G := Fr.rf
  have hl : lv_has ls 8 [(0, .ref a), (1, .int v0), (2, .int v1), (3, .int v2), (4, .int v3), (5, .int v4)] := hl
  refine lv_iload_n hx hb dX9_paste_0 rfl (lv_at hl 1 rfl) ?_
  refine pu_calli (runS (As := [.int v0]) (rest := []) ⟨hx, hb, hml, hown, hts⟩ (t_X9_isSlot l D cy base τ G v0) sS_X9_312 hK ⟨Nat.le_trans hZ hS.1, hT⟩ ⟨Nat.le_of_ble_eq_true rfl, Nat.le_of_ble_eq_true rfl⟩ rfl hl.1 rfl (Nat.le_of_ble_eq_true rfl) dX9_paste_1 ⟨Nat.le_of_ble_eq_true rfl, Nat.le_of_ble_eq_true rfl⟩) (fun r_1 hr_1 => ?_)
  have hr_1_c := hr_1
  rcases hr_1_c with hr_1_0 | hr_1_1
  · skip
    obtain ⟨er_1, hr_1_0_f0, hr_1_0_f1⟩ := hr_1_0
    have hr_1_0_f0 : 0 ≤ v0.toInt := hr_1_0_f0
    have hr_1_0_f1 : v0.toInt ≤ 3 := hr_1_0_f1
    subst er_1
    refine W.eq (g2 := F0 m 4 ls [.int 1]) rfl ?_
    refine lv_if_eq (tgt := 14) hx hb dX9_paste_4 (by decide) (fun c_2 => absurd c_2 (by decide)) (fun _ => ?_)
    refine lv_iload_n hx hb dX9_paste_7 rfl (lv_at hl 3 rfl) ?_
    refine pu_calli (runS (As := [.int v2]) (rest := []) ⟨hx, hb, hml, hown, hts⟩ (t_X9_isSlot l D cy base τ G v2) sS_X9_312 hK ⟨Nat.le_trans hZ hS.1, hT⟩ ⟨Nat.le_of_ble_eq_true rfl, Nat.le_of_ble_eq_true rfl⟩ rfl hl.1 rfl (Nat.le_of_ble_eq_true rfl) dX9_paste_8 ⟨Nat.le_of_ble_eq_true rfl, Nat.le_of_ble_eq_true rfl⟩) (fun r_3 hr_3 => ?_)
    have hr_3_c := hr_3
    rcases hr_3_c with hr_3_0 | hr_3_1
    · skip
      obtain ⟨er_3, hr_3_0_f0, hr_3_0_f1⟩ := hr_3_0
      have hr_3_0_f0 : 0 ≤ v2.toInt := hr_3_0_f0
      have hr_3_0_f1 : v2.toInt ≤ 3 := hr_3_0_f1
      subst er_3
      refine W.eq (g2 := F0 m 11 ls [.int 1]) rfl ?_
      refine lv_if_ne (tgt := 17) hx hb dX9_paste_11 (by decide) (fun _ => ?_) (fun c_4 => absurd c_4 (by decide))
      refine lv_aload_n hx hb dX9_paste_17 rfl (lv_at hl 0 rfl) ?_
      refine t_getr cf_1 hx hb hts hown hK hT h_a (k := 7) (P := fun q => τ q = 23) rfl (fun _ h9 => h9) fl_X9_54 (fun _ h9 => h9) dX9_paste_18 (fun q_5 eq_5 hq_5 => ?_)
      refine lv_iload_n hx hb dX9_paste_21 rfl (lv_at hl 1 rfl) ?_
      refine t_aald4 (n := 4) (i := v0) (P := fun q => τ q = 9) rfl (by decide) hx hb hK hT hq_5 (hT.len hq_5 (by decide)) ⟨by omega, by omega⟩ (fun _ _ h9 => h9) dX9_paste_22 (fun eq_6 => ?_) (fun q_6 eq_6 hq_6 => ?_)
      · skip
        refine lv_astoreN (lv' := [(6, .null), (0, .ref a), (1, .int v0), (2, .int v1), (3, .int v2), (4, .int v3), (5, .int v4)]) hx hb dX9_paste_23 hl (by decide) rfl (fun ls hl => ?_)
        refine lv_aload_n hx hb dX9_paste_25 rfl (lv_at hl 1 rfl) ?_
        refine t_getr cf_1 hx hb hts hown hK hT h_a (k := 7) (P := fun q => τ q = 23) rfl (fun _ h9 => h9) fl_X9_54 (fun _ h9 => h9) dX9_paste_26 (fun q_7 eq_7 hq_7 => ?_)
        have w_8 : q_5 = q_7 := Option.some.inj (eq_5.symm.trans eq_7)
        subst w_8
        refine lv_iload_n hx hb dX9_paste_29 rfl (lv_at hl 4 rfl) ?_
        refine t_aald4 (n := 4) (i := v2) (P := fun q => τ q = 9) rfl (by decide) hx hb hK hT hq_5 (hT.len hq_5 (by decide)) ⟨by omega, by omega⟩ (fun _ _ h9 => h9) dX9_paste_30 (fun eq_9 => ?_) (fun q_9 eq_9 hq_9 => ?_)
        · skip
          refine lv_astoreN (lv' := [(7, .null), (6, .null), (0, .ref a), (1, .int v0), (2, .int v1), (3, .int v2), (4, .int v3), (5, .int v4)]) hx hb dX9_paste_31 hl (by decide) rfl (fun ls hl => ?_)
          refine lv_aloadN hx hb dX9_paste_33 (lv_at hl 1 rfl) ?_
          refine lv_ifnullN (tgt := 43) hx hb dX9_paste_35 (by decide) ?_
          refine lv_bipush (v := (-6)) hx hb dX9_paste_43 (by decide) ?_
          exact ret_i hx hb hr hlocks ⟨⟨hS.1, hS.2.1⟩, G, hF, ⟨_, rfl, trivial⟩, hT⟩ hS.2.2 (Nat.le_of_ble_eq_true rfl) (Nat.le_of_ble_eq_true rfl) dX9_paste_45
        · skip
          refine lv_astore (lv' := [(7, .ref q_9), (6, .null), (0, .ref a), (1, .int v0), (2, .int v1), (3, .int v2), (4, .int v3), (5, .int v4)]) hx hb dX9_paste_31 hl (by decide) rfl (fun ls hl => ?_)
          refine lv_aloadN hx hb dX9_paste_33 (lv_at hl 1 rfl) ?_
          refine lv_ifnullN (tgt := 43) hx hb dX9_paste_35 (by decide) ?_
          refine lv_bipush (v := (-6)) hx hb dX9_paste_43 (by decide) ?_
          exact ret_i hx hb hr hlocks ⟨⟨hS.1, hS.2.1⟩, G, hF, ⟨_, rfl, trivial⟩, hT⟩ hS.2.2 (Nat.le_of_ble_eq_true rfl) (Nat.le_of_ble_eq_true rfl) dX9_paste_45
      · skip
        refine lv_astore (lv' := [(6, .ref q_6), (0, .ref a), (1, .int v0), (2, .int v1), (3, .int v2), (4, .int v3), (5, .int v4)]) hx hb dX9_paste_23 hl (by decide) rfl (fun ls hl => ?_)
        refine lv_aload_n hx hb dX9_paste_25 rfl (lv_at hl 1 rfl) ?_
        refine t_getr cf_1 hx hb hts hown hK hT h_a (k := 7) (P := fun q => τ q = 23) rfl (fun _ h9 => h9) fl_X9_54 (fun _ h9 => h9) dX9_paste_26 (fun q_10 eq_10 hq_10 => ?_)
        have w_11 : q_5 = q_10 := Option.some.inj (eq_5.symm.trans eq_10)
        subst w_11
        refine lv_iload_n hx hb dX9_paste_29 rfl (lv_at hl 4 rfl) ?_
        refine t_aald4 (n := 4) (i := v2) (P := fun q => τ q = 9) rfl (by decide) hx hb hK hT hq_5 (hT.len hq_5 (by decide)) ⟨by omega, by omega⟩ (fun _ _ h9 => h9) dX9_paste_30 (fun eq_12 => ?_) (fun q_12 eq_12 hq_12 => ?_)
        · skip
          refine lv_astoreN (lv' := [(7, .null), (6, .ref q_6), (0, .ref a), (1, .int v0), (2, .int v1), (3, .int v2), (4, .int v3), (5, .int v4)]) hx hb dX9_paste_31 hl (by decide) rfl (fun ls hl => ?_)
          refine lv_aload hx hb dX9_paste_33 (lv_at hl 1 rfl) ?_
          refine lv_ifnull hx hb dX9_paste_35 ?_
          refine lv_aloadN hx hb dX9_paste_38 (lv_at hl 0 rfl) ?_
          refine lv_ifnonnullN hx hb dX9_paste_40 ?_
          refine lv_bipush (v := (-6)) hx hb dX9_paste_43 (by decide) ?_
          exact ret_i hx hb hr hlocks ⟨⟨hS.1, hS.2.1⟩, G, hF, ⟨_, rfl, trivial⟩, hT⟩ hS.2.2 (Nat.le_of_ble_eq_true rfl) (Nat.le_of_ble_eq_true rfl) dX9_paste_45
        · skip
          refine lv_astore (lv' := [(7, .ref q_12), (6, .ref q_6), (0, .ref a), (1, .int v0), (2, .int v1), (3, .int v2), (4, .int v3), (5, .int v4)]) hx hb dX9_paste_31 hl (by decide) rfl (fun ls hl => ?_)
          refine lv_aload hx hb dX9_paste_33 (lv_at hl 1 rfl) ?_
          refine lv_ifnull hx hb dX9_paste_35 ?_
          refine lv_aload hx hb dX9_paste_38 (lv_at hl 0 rfl) ?_
          refine lv_ifnonnull (tgt := 46) hx hb dX9_paste_40 (by decide) ?_
          refine lv_aload hx hb dX9_paste_46 (lv_at hl 1 rfl) ?_
          refine t_geti cf_9 hx hb hts hown hK hT hq_6 (k := 0) rfl fl_X9_371 (fun _ h9 => h9) dX9_paste_48 (fun z_13 ez_13 rz_13 => ?_)
          have ez_13 : z_13 = G.1 q_6 0 := ez_13
          refine lv_aload hx hb dX9_paste_51 (lv_at hl 0 rfl) ?_
          refine t_geti cf_9 hx hb hts hown hK hT hq_12 (k := 0) rfl fl_X9_371 (fun _ h9 => h9) dX9_paste_53 (fun z_14 ez_14 rz_14 => ?_)
          have ez_14 : z_14 = G.1 q_12 0 := ez_14
          refine lv_icmp_eq (tgt := 62) hx hb dX9_paste_56 (by decide) (fun c_15 => ?_) (fun c_15 => ?_)
          · skip
            have tc_15 : z_13.toInt = z_14.toInt := (fa_eq _ _).mp c_15
            refine lv_aload hx hb dX9_paste_62 (lv_at hl 1 rfl) ?_
            refine lv_iload_n hx hb dX9_paste_64 rfl (lv_at hl 4 rfl) ?_
            refine lv_iload hx hb dX9_paste_65 (lv_at hl 7 rfl) ?_
            refine pu_calli (runV (As := [.int v1, .int v4]) (rest := []) ⟨hx, hb, hml, hown, hts⟩ (t_X6_has l D cy base τ G q_6 hq_6 v1 v4) sV_X9_374 hK (t_recv cf_9 hK hT hq_6) ⟨Nat.le_trans hZ hS.1, hT⟩ ⟨Nat.le_of_ble_eq_true rfl, Nat.le_of_ble_eq_true rfl⟩ rfl hl.1 rfl (Nat.le_of_ble_eq_true rfl) dX9_paste_67 ⟨Nat.le_of_ble_eq_true rfl, Nat.le_of_ble_eq_true rfl⟩) (fun r_16 hr_16 => ?_)
            have hr_16_c := hr_16
            rcases hr_16_c with hr_16_0 | hr_16_1
            · skip
              obtain ⟨er_16, hr_16_0_f0, hr_16_0_f1, hr_16_0_f2⟩ := hr_16_0
              have hr_16_0_f0 : 0 ≤ v1.toInt := hr_16_0_f0
              have hr_16_0_f1 : 0 ≤ v4.toInt := hr_16_0_f1
              have hr_16_0_f2 : ∀ q : Nat, G.2.2.1 q_6 1 = some q → v1.toInt + v4.toInt ≤ G.2.2.2 q := hr_16_0_f2
              subst er_16
              refine W.eq (g2 := F0 m 70 ls [.int 1]) rfl ?_
              refine lv_if_eq (tgt := 85) hx hb dX9_paste_70 (by decide) (fun c_17 => absurd c_17 (by decide)) (fun _ => ?_)
              refine lv_aload hx hb dX9_paste_73 (lv_at hl 0 rfl) ?_
              refine lv_iload hx hb dX9_paste_75 (lv_at hl 6 rfl) ?_
              refine lv_iload hx hb dX9_paste_77 (lv_at hl 7 rfl) ?_
              refine pu_calli (runV (As := [.int v3, .int v4]) (rest := []) ⟨hx, hb, hml, hown, hts⟩ (t_X6_has l D cy base τ G q_12 hq_12 v3 v4) sV_X9_374 hK (t_recv cf_9 hK hT hq_12) ⟨Nat.le_trans hZ hS.1, hT⟩ ⟨Nat.le_of_ble_eq_true rfl, Nat.le_of_ble_eq_true rfl⟩ rfl hl.1 rfl (Nat.le_of_ble_eq_true rfl) dX9_paste_79 ⟨Nat.le_of_ble_eq_true rfl, Nat.le_of_ble_eq_true rfl⟩) (fun r_18 hr_18 => ?_)
              have hr_18_c := hr_18
              rcases hr_18_c with hr_18_0 | hr_18_1
              · skip
                obtain ⟨er_18, hr_18_0_f0, hr_18_0_f1, hr_18_0_f2⟩ := hr_18_0
                have hr_18_0_f0 : 0 ≤ v3.toInt := hr_18_0_f0
                have hr_18_0_f1 : 0 ≤ v4.toInt := hr_18_0_f1
                have hr_18_0_f2 : ∀ q : Nat, G.2.2.1 q_12 1 = some q → v3.toInt + v4.toInt ≤ G.2.2.2 q := hr_18_0_f2
                subst er_18
                refine W.eq (g2 := F0 m 82 ls [.int 1]) rfl ?_
                refine lv_if_ne (tgt := 88) hx hb dX9_paste_82 (by decide) (fun _ => ?_) (fun c_19 => absurd c_19 (by decide))
                refine lv_aload hx hb dX9_paste_88 (lv_at hl 1 rfl) ?_
                refine t_getr cf_9 hx hb hts hown hK hT hq_6 (k := 1) (P := fun q => τ q = 40) rfl (fun _ h9 => h9) fl_X9_315 (fun _ h9 => h9) dX9_paste_90 (fun q_20 eq_20 hq_20 => ?_)
                refine lv_iload_n hx hb dX9_paste_93 rfl (lv_at hl 4 rfl) ?_
                refine lv_aload hx hb dX9_paste_94 (lv_at hl 0 rfl) ?_
                refine t_getr cf_9 hx hb hts hown hK hT hq_12 (k := 1) (P := fun q => τ q = 40) rfl (fun _ h9 => h9) fl_X9_315 (fun _ h9 => h9) dX9_paste_96 (fun q_21 eq_21 hq_21 => ?_)
                refine lv_iload hx hb dX9_paste_99 (lv_at hl 6 rfl) ?_
                refine lv_iload hx hb dX9_paste_101 (lv_at hl 7 rfl) ?_
                obtain ⟨n_22, en_22⟩ : ∃ y : Nat, y = G.2.2.2 q_20 := ⟨_, rfl⟩
                have rn_22 : n_22 ≤ 60 := by rw [en_22]; exact hT.len hq_20 (by decide)
                obtain ⟨n_23, en_23⟩ : ∃ y : Nat, y = G.2.2.2 q_21 := ⟨_, rfl⟩
                have rn_23 : n_23 ≤ 60 := by rw [en_23]; exact hT.len hq_21 (by decide)
                have u_24 := hr_16_0_f2 q_20 eq_20
                have u_25 := hr_18_0_f2 q_21 eq_21
                refine t_copyl (n0 := n_22) (n1 := n_23) (sp := v1) (dp := v3) (n := v4) rfl (by decide) rfl (by decide) hx hb (by rw [hml]; exact hl.1.symm) hown (hts _ ml_X9_377) hts hK hT hS hq_20 hq_21 (en_22.symm) (en_23.symm) (by omega) (by omega) (by omega) (by omega) (by omega) (Nat.le_of_ble_eq_true rfl) (Nat.le_of_ble_eq_true rfl) dX9_paste_103 (fun H locs G_26 f_27 eG_26 hT hS => ?_)
                have hF := hF.wLA eG_26 hq_21 rfl
                refine lv_iconst (v := 0) hx hb dX9_paste_106 (by decide) ?_
                exact ret_i hx hb hr hlocks ⟨⟨hS.1, hS.2.1⟩, G_26, hF, ⟨_, rfl, trivial⟩, hT⟩ hS.2.2 (Nat.le_of_ble_eq_true rfl) (Nat.le_of_ble_eq_true rfl) dX9_paste_107
              · skip
                have er_18 := hr_18_1
                subst er_18
                refine W.eq (g2 := F0 m 82 ls [.int 0]) rfl ?_
                refine lv_if_ne (tgt := 88) hx hb dX9_paste_82 (by decide) (fun c_28 => absurd rfl c_28) (fun _ => ?_)
                refine lv_bipush (v := (-7)) hx hb dX9_paste_85 (by decide) ?_
                exact ret_i hx hb hr hlocks ⟨⟨hS.1, hS.2.1⟩, G, hF, ⟨_, rfl, trivial⟩, hT⟩ hS.2.2 (Nat.le_of_ble_eq_true rfl) (Nat.le_of_ble_eq_true rfl) dX9_paste_87
            · skip
              have er_16 := hr_16_1
              subst er_16
              refine W.eq (g2 := F0 m 70 ls [.int 0]) rfl ?_
              refine lv_if_eq (tgt := 85) hx hb dX9_paste_70 (by decide) (fun _ => ?_) (fun c_29 => absurd (by decide) c_29)
              refine lv_bipush (v := (-7)) hx hb dX9_paste_85 (by decide) ?_
              exact ret_i hx hb hr hlocks ⟨⟨hS.1, hS.2.1⟩, G, hF, ⟨_, rfl, trivial⟩, hT⟩ hS.2.2 (Nat.le_of_ble_eq_true rfl) (Nat.le_of_ble_eq_true rfl) dX9_paste_87
          · skip
            have tc_15 : ¬ z_13.toInt = z_14.toInt := fun h => c_15 ((fa_eq _ _).mpr h)
            refine lv_bipush (v := (-8)) hx hb dX9_paste_59 (by decide) ?_
            exact ret_i hx hb hr hlocks ⟨⟨hS.1, hS.2.1⟩, G, hF, ⟨_, rfl, trivial⟩, hT⟩ hS.2.2 (Nat.le_of_ble_eq_true rfl) (Nat.le_of_ble_eq_true rfl) dX9_paste_61
    · skip
      have er_3 := hr_3_1
      subst er_3
      refine W.eq (g2 := F0 m 11 ls [.int 0]) rfl ?_
      refine lv_if_ne (tgt := 17) hx hb dX9_paste_11 (by decide) (fun c_30 => absurd rfl c_30) (fun _ => ?_)
      refine lv_bipush (v := (-2)) hx hb dX9_paste_14 (by decide) ?_
      exact ret_i hx hb hr hlocks ⟨⟨hS.1, hS.2.1⟩, G, hF, ⟨_, rfl, trivial⟩, hT⟩ hS.2.2 (Nat.le_of_ble_eq_true rfl) (Nat.le_of_ble_eq_true rfl) dX9_paste_16
  · skip
    have er_1 := hr_1_1
    subst er_1
    refine W.eq (g2 := F0 m 4 ls [.int 0]) rfl ?_
    refine lv_if_eq (tgt := 14) hx hb dX9_paste_4 (by decide) (fun _ => ?_) (fun c_31 => absurd (by decide) c_31)
    refine lv_bipush (v := (-2)) hx hb dX9_paste_14 (by decide) ?_
    exact ret_i hx hb hr hlocks ⟨⟨hS.1, hS.2.1⟩, G, hF, ⟨_, rfl, trivial⟩, hT⟩ hS.2.2 (Nat.le_of_ble_eq_true rfl) (Nat.le_of_ble_eq_true rfl) dX9_paste_16
